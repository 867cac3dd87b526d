/**
 * Issues numbers of 64 bits that are never given twice: of a time, a seat and a counter.
 * Seats and spans of time are granted by a majority of five nodes, over letters that may be
 * lost, doubled or late.
 */
public final class IssueHouse {
    /** There is none. */
    public static final int NONE = -1;

    private static final int ISSUERS = 8;
    private static final int NODES = 5;
    private static final int SEATS = 8;
    private static final int MAJORITY = 3;
    private static final int MOST_LETTERS = 90;

    private static final long LATEST_TIME = (1L << 41) - 1;
    private static final long SPAN = 60000;
    private static final long MOST_AHEAD = 5000;

    private static final int COUNTERS = 1024;
    private static final int TIME_SHIFT = 23;
    private static final int SEAT_SHIFT = 10;
    private static final long SEAT_MASK = (1L << (TIME_SHIFT - SEAT_SHIFT)) - 1;

    private static final int PREPARE = 0;
    private static final int PROMISE = 1;
    private static final int ACCEPT = 2;
    private static final int YES = 3;
    private static final int NO = 4;

    private static final int LETTER_WHATS = 6;
    private static final int ISSUER_WHATS = 8;
    private static final int SEAT_WHATS = 3;
    private static final int PART_WHATS = 3;

    private static final int IDLE = 0;
    private static final int PREPARING = 1;
    private static final int ACCEPTING = 2;

    private final Issuer[] issuers = new Issuer[ISSUERS];
    private final Node[] nodes = new Node[NODES];
    private final Row unheld = new Row(0, NONE, 0, 0);
    private final Post post = new Post(unheld);

    public IssueHouse() {
        for (int i = 0; i < ISSUERS; i++) {
            issuers[i] = new Issuer(i, unheld);
        }
        for (int n = 0; n < NODES; n++) {
            nodes[n] = new Node(unheld);
        }
    }

    public void clock(int issuer, long t) throws IndexOutOfBoundsException, IllegalArgumentException {
        if (!isWithin(issuer, ISSUERS)) {
            throw new IndexOutOfBoundsException("no such issuer");
        }
        if (t < 0 || t > LATEST_TIME) {
            throw new IllegalArgumentException("no time");
        }
        issuers[issuer].clock = t;
    }

    public void start(int issuer) throws IndexOutOfBoundsException, IllegalStateException {
        if (!isWithin(issuer, ISSUERS)) {
            throw new IndexOutOfBoundsException("no such issuer");
        }
        Issuer who = issuers[issuer];
        if (who.isReady() || who.phase != IDLE || !post.hasRoomFor(NODES)) {
            throw new IllegalStateException("ready, or at an attempt, or too many letters");
        }
        attempt(who);
    }

    public void prolong(int issuer) throws IndexOutOfBoundsException, IllegalStateException {
        if (!isWithin(issuer, ISSUERS)) {
            throw new IndexOutOfBoundsException("no such issuer");
        }
        Issuer who = issuers[issuer];
        if (!who.isReady() || who.phase != IDLE || !post.hasRoomFor(NODES)) {
            throw new IllegalStateException("not ready, or at an attempt, or too many letters");
        }
        attempt(who);
    }

    public void crash(int issuer) throws IndexOutOfBoundsException {
        if (!isWithin(issuer, ISSUERS)) {
            throw new IndexOutOfBoundsException("no such issuer");
        }
        issuers[issuer].breakDown();
    }

    public void node(int node, boolean up) throws IndexOutOfBoundsException {
        if (!isWithin(node, NODES)) {
            throw new IndexOutOfBoundsException("no such node");
        }
        nodes[node].up = up;
    }

    public int letters() {
        return post.size;
    }

    public int deliver(int k) throws IndexOutOfBoundsException, IllegalStateException {
        if (!isWithin(k, post.size)) {
            throw new IndexOutOfBoundsException("no such letter");
        }
        Letter mail = post.at(k);
        if (mail.isToNode()) {
            post.take(k);
            return handToNode(mail);
        }
        Issuer to = issuers[mail.issuer];
        if (to.isDecidedBy(mail)) {
            return decide(to, k);
        }
        post.take(k);
        to.receive(mail);
        return 0;
    }

    public void lose(int k) throws IndexOutOfBoundsException {
        if (!isWithin(k, post.size)) {
            throw new IndexOutOfBoundsException("no such letter");
        }
        post.take(k);
    }

    public void twin(int k) throws IndexOutOfBoundsException, IllegalStateException {
        if (!isWithin(k, post.size)) {
            throw new IndexOutOfBoundsException("no such letter");
        }
        if (!post.hasRoomFor(1)) {
            throw new IllegalStateException("too many letters");
        }
        post.sendAgain(k);
    }

    public int letter(int k, int what) throws IndexOutOfBoundsException {
        if (!isWithin(k, post.size) || !isWithin(what, LETTER_WHATS)) {
            throw new IndexOutOfBoundsException("no such letter, or what");
        }
        Letter mail = post.at(k);
        switch (what) {
            case 0: return mail.kind;
            case 1: return mail.issuer;
            case 2: return mail.node;
            case 3: return mail.ballot;
            case 4: return mail.seat;
            default: return mail.promised;
        }
    }

    public long issuer(int issuer, int what) throws IndexOutOfBoundsException {
        if (!isWithin(issuer, ISSUERS) || !isWithin(what, ISSUER_WHATS)) {
            throw new IndexOutOfBoundsException("no such issuer, or what");
        }
        Issuer who = issuers[issuer];
        switch (what) {
            case 0: return who.isReady() ? 1 : 0;
            case 1: return who.phase;
            case 6: return who.failed;
            case 7: return who.given;
            default: return who.tellHeld(what);
        }
    }

    public long next(int issuer) throws IndexOutOfBoundsException {
        if (!isWithin(issuer, ISSUERS)) {
            throw new IndexOutOfBoundsException("no such issuer");
        }
        return issuers[issuer].give(1);
    }

    public long batch(int issuer, int n) throws IndexOutOfBoundsException, IllegalArgumentException {
        if (!isWithin(issuer, ISSUERS)) {
            throw new IndexOutOfBoundsException("no such issuer");
        }
        if (n < 1 || n > COUNTERS) {
            throw new IllegalArgumentException("not 1 to 1024 numbers");
        }
        return issuers[issuer].give(n);
    }

    public long seat(int seat, int what) throws IndexOutOfBoundsException {
        if (!isWithin(seat, SEATS) || !isWithin(what, SEAT_WHATS)) {
            throw new IndexOutOfBoundsException("no such seat, or what");
        }
        if (nodesUp() < MAJORITY) {
            return NONE;
        }
        Row row = newestRow(seat);
        if (row.holder == NONE) {
            return NONE;
        }
        switch (what) {
            case 0: return row.holder;
            case 1: return row.term;
            default: return row.mark;
        }
    }

    public long part(long number, int what) throws IllegalArgumentException {
        if (number < 0 || !isWithin(what, PART_WHATS)) {
            throw new IllegalArgumentException("a number below 0, or no such what");
        }
        switch (what) {
            case 0: return number >> TIME_SHIFT;
            case 1: return (number >> SEAT_SHIFT) & SEAT_MASK;
            default: return number & (COUNTERS - 1);
        }
    }

    private static boolean isWithin(int index, int count) {
        return index >= 0 && index < count;
    }

    private void attempt(Issuer who) {
        who.prepare();
        for (int n = 0; n < NODES; n++) {
            post.send(PREPARE, who.self, n, who.ballot);
        }
    }

    private int handToNode(Letter mail) {
        Node to = nodes[mail.node];
        if (!to.up) {
            return 0;
        }
        if (mail.kind == PREPARE) {
            to.answerPrepare(mail, post);
        } else {
            to.answerAccept(mail, post);
        }
        return 1;
    }

    /** Nothing changes before it is sure that ACCEPT has room: a refused letter stays uncounted. */
    private int decide(Issuer to, int k) throws IllegalStateException {
        Grant wish = to.wishWith(post.at(k));
        // The delivered letter makes room for one of the five.
        if (wish != null && !post.hasRoomFor(NODES - 1)) {
            throw new IllegalStateException("too many letters");
        }
        post.take(k);
        if (wish == null) {
            to.fail();
            return 0;
        }
        to.accept(wish);
        for (int n = 0; n < NODES; n++) {
            Letter mail = post.send(ACCEPT, to.self, n, to.ballot);
            mail.seat = wish.seat;
            mail.row = wish.row;
        }
        return NODES;
    }

    private int nodesUp() {
        int up = 0;
        for (int n = 0; n < NODES; n++) {
            if (nodes[n].up) {
                up++;
            }
        }
        return up;
    }

    private Row newestRow(int seat) {
        Row newest = unheld;
        for (int n = 0; n < NODES; n++) {
            if (nodes[n].up) {
                newest = newest.orNewer(nodes[n].rows[seat]);
            }
        }
        return newest;
    }

    /** What a node keeps of a seat. It never changes, so that nodes and letters can share it. */
    private static final class Row {
        final int ballot;
        final int holder;
        final int term;
        final long mark;

        Row(int ballot, int holder, int term, long mark) {
            this.ballot = ballot;
            this.holder = holder;
            this.term = term;
            this.mark = mark;
        }

        Row orNewer(Row other) {
            return other.ballot > ballot ? other : this;
        }
    }

    /** A seat and a span that an issuer asks for or has; the span's last time is the row's mark. */
    private static final class Grant {
        final int seat;
        final long first;
        final Row row;

        Grant(int seat, long first, Row row) {
            this.seat = seat;
            this.first = first;
            this.row = row;
        }
    }

    /** A place for a letter, used again for later ones. */
    private static final class Letter {
        int kind;
        int issuer;
        int node;
        int ballot;
        int seat;
        int promised;
        Row row;
        final Row[] rows = new Row[SEATS];

        Letter(Row unheld) {
            row = unheld;
            for (int s = 0; s < SEATS; s++) {
                rows[s] = unheld;
            }
        }

        boolean isToNode() {
            return kind == PREPARE || kind == ACCEPT;
        }

        void copyRows(Row[] from) {
            for (int s = 0; s < SEATS; s++) {
                rows[s] = from[s];
            }
        }
    }

    /** The letters in the order in which they were sent. */
    private static final class Post {
        // One more place than letters, so that answers never overwrite the letter just taken.
        final Letter[] places = new Letter[MOST_LETTERS + 1];
        int size;

        Post(Row unheld) {
            for (int k = 0; k < places.length; k++) {
                places[k] = new Letter(unheld);
            }
        }

        boolean hasRoomFor(int more) {
            return size + more <= MOST_LETTERS;
        }

        Letter at(int k) {
            return places[k];
        }

        Letter send(int kind, int issuer, int node, int ballot) {
            Letter mail = places[size];
            size++;
            mail.kind = kind;
            mail.issuer = issuer;
            mail.node = node;
            mail.ballot = ballot;
            mail.seat = NONE;
            mail.promised = NONE;
            return mail;
        }

        void sendAgain(int k) {
            Letter old = places[k];
            Letter copy = send(old.kind, old.issuer, old.node, old.ballot);
            copy.seat = old.seat;
            copy.promised = old.promised;
            copy.row = old.row;
            copy.copyRows(old.rows);
        }

        void take(int k) {
            Letter taken = places[k];
            for (int j = k; j < MOST_LETTERS; j++) {
                places[j] = places[j + 1];
            }
            places[MOST_LETTERS] = taken;
            size--;
        }
    }

    /** One of the five that grant seats and spans. */
    private static final class Node {
        boolean up = true;
        int promised;
        final Row[] rows = new Row[SEATS];

        Node(Row unheld) {
            for (int s = 0; s < SEATS; s++) {
                rows[s] = unheld;
            }
        }

        void answerPrepare(Letter mail, Post post) {
            if (mail.ballot <= promised) {
                refuse(mail, post);
                return;
            }
            promised = mail.ballot;
            post.send(PROMISE, mail.issuer, mail.node, mail.ballot).copyRows(rows);
        }

        void answerAccept(Letter mail, Post post) {
            if (mail.ballot < promised) {
                refuse(mail, post);
                return;
            }
            promised = mail.ballot;
            rows[mail.seat] = mail.row;
            post.send(YES, mail.issuer, mail.node, mail.ballot);
        }

        void refuse(Letter mail, Post post) {
            post.send(NO, mail.issuer, mail.node, mail.ballot).promised = promised;
        }
    }

    /** One that asks for a seat and a span, and gives numbers of them. */
    private static final class Issuer {
        final int self;
        final Row unheld;
        long clock;

        int phase = IDLE;
        int round;
        int leastRound;
        int ballot;
        int countedNodes;
        final Row[] seen = new Row[SEATS];
        Grant wished;
        int failed;

        Grant held;
        long lastTime = NONE;
        int lastCounter;
        long given;

        Issuer(int self, Row unheld) {
            this.self = self;
            this.unheld = unheld;
            for (int s = 0; s < SEATS; s++) {
                seen[s] = unheld;
            }
        }

        boolean isReady() {
            return held != null;
        }

        void prepare() {
            round = Math.max(round + 1, leastRound);
            ballot = ISSUERS * round + self;
            phase = PREPARING;
            countedNodes = 0;
            // Rows of an earlier attempt may come from nodes that this one does not hear of.
            for (int s = 0; s < SEATS; s++) {
                seen[s] = unheld;
            }
        }

        void accept(Grant wish) {
            wished = wish;
            phase = ACCEPTING;
            countedNodes = 0;
        }

        void fail() {
            phase = IDLE;
            failed++;
        }

        void breakDown() {
            phase = IDLE;
            leastRound = 0;
            hold(null);
        }

        void hold(Grant grant) {
            held = grant;
            lastTime = NONE;
            lastCounter = 0;
        }

        /** Whether this is the PROMISE with which a majority has answered. */
        boolean isDecidedBy(Letter mail) {
            return mail.kind == PROMISE && counts(mail, PREPARING) && isMajorityWith(mail);
        }

        void receive(Letter mail) {
            if (mail.kind == PROMISE && counts(mail, PREPARING)) {
                countPromise(mail);
            } else if (mail.kind == YES && counts(mail, ACCEPTING)) {
                countYes(mail);
            } else if (mail.kind == NO && phase != IDLE && mail.ballot == ballot) {
                leastRound = mail.promised / ISSUERS + 1;
                fail();
            }
        }

        boolean counts(Letter mail, int duringPhase) {
            return phase == duringPhase && mail.ballot == ballot
                    && (countedNodes & (1 << mail.node)) == 0;
        }

        boolean isMajorityWith(Letter mail) {
            return Integer.bitCount(countedNodes | (1 << mail.node)) >= MAJORITY;
        }

        void countPromise(Letter mail) {
            countedNodes |= 1 << mail.node;
            for (int s = 0; s < SEATS; s++) {
                seen[s] = seen[s].orNewer(mail.rows[s]);
            }
        }

        void countYes(Letter mail) {
            if (isMajorityWith(mail)) {
                phase = IDLE;
                hold(wished);
                return;
            }
            countedNodes |= 1 << mail.node;
        }

        /** What to ask for with this last PROMISE, or null when there is no seat or no span. */
        Grant wishWith(Letter mail) {
            // Whoever has a seat while it is at an attempt is prolonging.
            int seat = held != null ? held.seat : chooseSeat(mail);
            if (seat == NONE) {
                return null;
            }
            Row row = seen[seat].orNewer(mail.rows[seat]);
            long first = Math.max(clock, row.mark + 1);
            long last = first + SPAN - 1;
            if (last > LATEST_TIME) {
                return null;
            }
            int term = held != null ? held.row.term : row.term + 1;
            return new Grant(seat, first, new Row(ballot, self, term, last));
        }

        int chooseSeat(Letter mail) {
            int own = lowestSeatOf(self, mail);
            return own != NONE ? own : lowestSeatOf(NONE, mail);
        }

        int lowestSeatOf(int holder, Letter mail) {
            for (int s = 0; s < SEATS; s++) {
                if (seen[s].orNewer(mail.rows[s]).holder == holder) {
                    return s;
                }
            }
            return NONE;
        }

        /** The first of n numbers with one time, or 0. */
        long give(int n) {
            if (held == null) {
                return 0;
            }
            long time = Math.max(Math.max(clock, held.first), lastTime);
            int counter = time == lastTime ? lastCounter + 1 : 0;
            if (counter + n > COUNTERS) {
                time++;
                counter = 0;
            }
            if (time > held.row.mark || time > clock + MOST_AHEAD) {
                return 0;
            }
            lastTime = time;
            lastCounter = counter + n - 1;
            given += n;
            return (time << TIME_SHIFT) + ((long) held.seat << SEAT_SHIFT) + counter;
        }

        long tellHeld(int what) {
            if (held == null) {
                return NONE;
            }
            switch (what) {
                case 2: return held.seat;
                case 3: return held.row.term;
                case 4: return held.row.mark;
                default: return lastTime;
            }
        }
    }
}

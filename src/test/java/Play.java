/** Runs of calls that many tests need. Those that carry an attempt begin with no letters lying there. */
final class Play {
    static final int PREPARE = 0;
    static final int PROMISE = 1;
    static final int ACCEPT = 2;
    static final int YES = 3;
    static final int NO = 4;

    static final long LATEST = (1L << 41) - 1;

    static final int BUSY_LETTERS = 8;
    static final int BUSY_THIRD_PROMISE = 5;
    static final int BUSY_NO = 6;
    static final int BUSY_THIRD_YES = 7;

    /** All orders of the nodes 0 to 2. */
    static final int[][] ORDERS = {{0, 1, 2}, {0, 2, 1}, {1, 0, 2}, {1, 2, 0}, {2, 0, 1}, {2, 1, 0}};

    private Play() {
    }

    /** A new object in which issuer 0 is ready with seat 0 and the span that begins at t. */
    static IssueHouse readyAt(long t) {
        IssueHouse x = new IssueHouse();
        x.clock(0, t);
        start(x, 0);
        return x;
    }

    static void start(IssueHouse x, int issuer) {
        startWith(x, issuer, 0, 1, 2);
    }

    static void prolong(IssueHouse x, int issuer) {
        prolongWith(x, issuer, 0, 1, 2);
    }

    static void prolongWith(IssueHouse x, int issuer, int a, int b, int c) {
        x.prolong(issuer);
        carry(x, a, b, c);
    }

    /** A START that just the nodes a < b < c hear of; what else was sent is lost. */
    static void startWith(IssueHouse x, int issuer, int a, int b, int c) {
        x.start(issuer);
        carry(x, a, b, c);
    }

    private static void carry(IssueHouse x, int a, int b, int c) {
        promises(x, a, b, c);
        accept(x, a, b, c);
        for (int j = 0; j < 3; j++) {
            x.deliver(4);
        }
        clear(x);
    }

    /** Brings PREPARE to three nodes and their PROMISE back: two PREPARE and five ACCEPT lie there. */
    static void promises(IssueHouse x, int a, int b, int c) {
        x.deliver(a);
        x.deliver(b - 1);
        x.deliver(c - 2);
        for (int j = 0; j < 3; j++) {
            x.deliver(2);
        }
    }

    /** Behind promises(): brings ACCEPT to three nodes: two PREPARE, two ACCEPT, three YES lie there. */
    static void accept(IssueHouse x, int a, int b, int c) {
        x.deliver(2 + a);
        x.deliver(2 + b - 1);
        x.deliver(2 + c - 2);
    }

    /** A START that gets its ACCEPT to one node alone, and a crash then. */
    static void startInVain(IssueHouse x, int issuer, int a, int b, int c, int acceptor) {
        x.start(issuer);
        promises(x, a, b, c);
        x.deliver(2 + acceptor);
        x.crash(issuer);
        clear(x);
    }

    /**
     * Brings it to where issuer 7 finds no seat with its third PROMISE, which is letter 2: 1 to 6 have
     * seats 0 to 5, and issuer 0 the other two, one of them by an ACCEPT that just one node heard of.
     */
    static void withoutASeatFor7(IssueHouse x) {
        for (int i = 1; i <= 6; i++) {
            start(x, i);
        }
        startInVain(x, 7, 0, 1, 2, 0);
        skip(x, 0, 1);
        startInVain(x, 0, 0, 1, 2, 0);
        startWith(x, 0, 1, 2, 3);
        skip(x, 7, 1);
        x.start(7);
        for (int n = 0; n < 3; n++) {
            x.deliver(0);
        }
        x.deliver(2);
        x.deliver(2);
    }

    /**
     * Three rows of seat 0, each known to one of the nodes 0 to 2 alone: the greatest ballot's is at the
     * last of them. The marks, 68999, 64999 and 60999, fall as the ballots rise. All clocks are 0 then.
     */
    static void threeRows(IssueHouse x, int... nodes) {
        long[] clocks = {9000, 5000, 1000};
        for (int j = 0; j < 3; j++) {
            x.clock(0, clocks[j]);
            startInVain(x, 0, nodes[j], 3, 4, nodes[j]);
        }
        x.clock(0, 0);
    }

    /** Attempts of which no node hears, so that later ballots are higher. */
    static void skip(IssueHouse x, int issuer, int attempts) {
        for (int j = 0; j < attempts; j++) {
            x.start(issuer);
            x.crash(issuer);
            clear(x);
        }
    }

    static void clear(IssueHouse x) {
        clearBut(x, 0);
    }

    /** Loses all letters but the last ones. */
    static void clearBut(IssueHouse x, int last) {
        for (int size = x.letters(); size > last; size--) {
            x.lose(0);
        }
    }

    /** Loses all letters but the first. */
    static void clearToFirst(IssueHouse x) {
        for (int size = x.letters(); size > 1; size--) {
            x.lose(1);
        }
    }

    /** Doubles letter k until there are so many letters. */
    static void fill(IssueHouse x, int k, int letters) {
        for (int size = x.letters(); size < letters; size++) {
            x.twin(k);
        }
    }

    /**
     * A new object's first calls, up to where all sorts of things are under way. The clock of issuer i
     * is 10000 + 1000 * i. Issuer 0 is ready and gave a number; 1 failed and knows of NUMBERS; 4 is
     * accepting and counted two YES; 6 is preparing and counted two PROMISE; node 4 is down. Eight letters
     * lie there: PREPARE of 4 to nodes 3 and 4, ACCEPT to node 4, PREPARE of 6 to nodes 3 and 4, a third
     * PROMISE for 6, NO and a third YES for 4.
     */
    static void busy(IssueHouse x) {
        for (int i = 0; i < 8; i++) {
            x.clock(i, 10000 + 1000 * i);
        }
        start(x, 0);
        x.next(0);
        skip(x, 6, 1);
        x.start(4);
        promises(x, 0, 1, 2);
        x.deliver(2);
        x.deliver(2);
        x.deliver(5);
        x.deliver(5);
        x.start(6);
        for (int n = 0; n < 3; n++) {
            x.deliver(5);
        }
        x.deliver(7);
        x.deliver(7);
        x.start(1);
        x.deliver(8);
        x.deliver(12);
        for (int n = 0; n < 4; n++) {
            x.lose(8);
        }
        x.deliver(2);
        x.deliver(2);
        x.node(4, false);
    }

    /** As busy(), with twins of all its letters up to so many. */
    static void crowded(IssueHouse x, int letters) {
        busy(x);
        for (int size = BUSY_LETTERS; size < letters; size++) {
            x.twin(size % BUSY_LETTERS);
        }
    }

    /** Issuer 0 is ready, gave numbers, and is prolonging: two PROMISE are counted, the third is letter 2. */
    static void prolonging(IssueHouse x) {
        x.clock(0, 1000);
        start(x, 0);
        x.batch(0, 10);
        x.prolong(0);
        x.deliver(0);
        x.deliver(0);
        x.deliver(0);
        x.deliver(2);
        x.deliver(2);
    }

    /** As prolonging(), but accepting: two YES are counted, the third is letter 4. */
    static void prolongingFar(IssueHouse x) {
        prolonging(x);
        x.deliver(2);
        accept(x, 0, 1, 2);
        x.deliver(4);
        x.deliver(4);
    }

    static long number(long time, int seat, int counter) {
        return time * 8388608L + seat * 1024L + counter;
    }
}

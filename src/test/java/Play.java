/** Runs of calls that many tests need. All of them but fill() start with no letters lying there. */
final class Play {
    static final int PREPARE = 0;
    static final int PROMISE = 1;
    static final int ACCEPT = 2;
    static final int YES = 3;
    static final int NO = 4;

    static final long LATEST = (1L << 41) - 1;

    private Play() {
    }

    /** A new object in which issuer 0 is ready with seat 0 and the span that begins at t. */
    static IssueHouse readyAt(long t) {
        IssueHouse x = new IssueHouse();
        x.clock(0, t);
        start(x, 0);
        return x;
    }

    static void start(IssueHouse x, int issuer) {
        startWith(x, issuer, 0, 1, 2);
    }

    static void prolong(IssueHouse x, int issuer) {
        prolongWith(x, issuer, 0, 1, 2);
    }

    static void prolongWith(IssueHouse x, int issuer, int a, int b, int c) {
        x.prolong(issuer);
        carry(x, a, b, c);
    }

    /** A START that just the nodes a < b < c hear of; what else was sent is lost. */
    static void startWith(IssueHouse x, int issuer, int a, int b, int c) {
        x.start(issuer);
        carry(x, a, b, c);
    }

    private static void carry(IssueHouse x, int a, int b, int c) {
        promises(x, a, b, c);
        accept(x, a, b, c);
        for (int j = 0; j < 3; j++) {
            x.deliver(4);
        }
        clear(x);
    }

    /** Brings PREPARE to three nodes and their PROMISE back: two PREPARE and five ACCEPT lie there. */
    static void promises(IssueHouse x, int a, int b, int c) {
        x.deliver(a);
        x.deliver(b - 1);
        x.deliver(c - 2);
        for (int j = 0; j < 3; j++) {
            x.deliver(2);
        }
    }

    /** Behind promises(): brings ACCEPT to three nodes: two PREPARE, two ACCEPT, three YES lie there. */
    static void accept(IssueHouse x, int a, int b, int c) {
        x.deliver(2 + a);
        x.deliver(2 + b - 1);
        x.deliver(2 + c - 2);
    }

    /** A START that gets its ACCEPT to one node alone, and a crash then. */
    static void startInVain(IssueHouse x, int issuer, int a, int b, int c, int acceptor) {
        x.start(issuer);
        promises(x, a, b, c);
        x.deliver(2 + acceptor);
        x.crash(issuer);
        clear(x);
    }

    /** Attempts of which no node hears, so that later ballots are higher. */
    static void skip(IssueHouse x, int issuer, int attempts) {
        for (int j = 0; j < attempts; j++) {
            x.start(issuer);
            x.crash(issuer);
            clear(x);
        }
    }

    static void clear(IssueHouse x) {
        clearBut(x, 0);
    }

    /** Loses all letters but the last ones. */
    static void clearBut(IssueHouse x, int last) {
        while (x.letters() > last) {
            x.lose(0);
        }
    }

    /** Doubles letter k until there are so many letters. */
    static void fill(IssueHouse x, int k, int letters) {
        while (x.letters() < letters) {
            x.twin(k);
        }
    }

    static long number(long time, int seat, int counter) {
        return time * 8388608L + seat * 1024L + counter;
    }
}

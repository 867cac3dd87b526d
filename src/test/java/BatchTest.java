/** Promise 14. */
public final class BatchTest {
    public static void main(String[] args) {
        Check check = new Check();
        wrongInputs(check);
        ofOneTime(check);
        beginsBehindWhenItDoesNotFit(check);
        notGiven(check);
        asNextWouldDo(check);
        noSuchIssuer(check);
        oneToAThousandAndTwentyFour(check);
        oneIsAsNext(check);
        fitsJust(check);
        aWholeTimeBehindAStartedOne(check);
        behindAFullTime(check);
        theEndOfTheSpan(check);
        aheadOfTheClock(check);
        notReady(check);
        wrapsAround(check);
        check.end();
    }

    private static void wrongInputs(Check check) {
        IssueHouse x = new IssueHouse();
        check.outOfBounds("batch(-1, 1)", () -> x.batch(-1, 1));
        check.outOfBounds("batch(8, 1)", () -> x.batch(8, 1));
        check.outOfBounds("batch(8, 0)", () -> x.batch(8, 0));
        check.badArgument("batch(0, 0)", () -> x.batch(0, 0));
        check.badArgument("batch(0, -1)", () -> x.batch(0, -1));
        check.badArgument("batch(0, 1025)", () -> x.batch(0, 1025));
        check.badArgument("batch(0, greatest)", () -> x.batch(0, Integer.MAX_VALUE));
        check.badArgument("batch(0, least)", () -> x.batch(0, Integer.MIN_VALUE));
        check.due("batch(0, 1) when not ready", x.batch(0, 1), 0);
        IssueHouse y = Play.readyAt(1000);
        check.badArgument("batch(0, 1025) when ready", () -> y.batch(0, 1025));
        check.due("issuer(0, 7)", y.issuer(0, 7), 0);
    }

    private static void ofOneTime(Check check) {
        IssueHouse x = Play.readyAt(1000);
        check.due("batch(0, 10)", x.batch(0, 10), Play.number(1000, 0, 0));
        check.due("batch(0, 5)", x.batch(0, 5), Play.number(1000, 0, 10));
        check.due("next(0)", x.next(0), Play.number(1000, 0, 15));
        check.due("batch(0, 1008)", x.batch(0, 1008), Play.number(1000, 0, 16));
        check.due("next(0)", x.next(0), Play.number(1001, 0, 0));
        check.due("issuer(0, 7)", x.issuer(0, 7), 1025);
        Play.start(x, 1);
        check.due("batch(1, 1024)", x.batch(1, 1024), Play.number(1, 1, 0));
    }

    private static void beginsBehindWhenItDoesNotFit(Check check) {
        IssueHouse x = Play.readyAt(1000);
        x.next(0);
        check.due("batch(0, 1024)", x.batch(0, 1024), Play.number(1001, 0, 0));
        check.due("batch(0, 1024) behind a full time", x.batch(0, 1024), Play.number(1002, 0, 0));
        check.due("batch(0, 1000)", x.batch(0, 1000), Play.number(1003, 0, 0));
        check.due("batch(0, 25)", x.batch(0, 25), Play.number(1004, 0, 0));
        check.due("next(0)", x.next(0), Play.number(1004, 0, 25));
        check.due("issuer(0, 5)", x.issuer(0, 5), 1004);
        check.due("issuer(0, 7)", x.issuer(0, 7), 1 + 1024 + 1024 + 1000 + 25 + 1);
        x.clock(0, 1005);
        check.due("batch(0, 1024) at the clock", x.batch(0, 1024), Play.number(1005, 0, 0));
    }

    private static void notGiven(Check check) {
        IssueHouse x = Play.readyAt(1000);
        x.clock(0, 60999);
        x.batch(0, 1000);
        check.due("batch(0, 25) behind the span", x.batch(0, 25), 0);
        check.due("issuer(0, 5)", x.issuer(0, 5), 60999);
        check.due("issuer(0, 7)", x.issuer(0, 7), 1000);
        check.due("batch(0, 24) within it", x.batch(0, 24), Play.number(60999, 0, 1000));
        IssueHouse y = Play.readyAt(10000);
        y.next(0);
        y.clock(0, 5000);
        check.due("batch(0, 1024) 5001 ahead", y.batch(0, 1024), 0);
        check.due("batch(0, 1023) 5000 ahead", y.batch(0, 1023), Play.number(10000, 0, 1));
        y.clock(0, 5001);
        check.due("batch(0, 1024) 5000 ahead", y.batch(0, 1024), Play.number(10001, 0, 0));
    }

    private static void asNextWouldDo(Check check) {
        IssueHouse x = Play.readyAt(1000);
        IssueHouse y = Play.readyAt(1000);
        for (int n = 1; n <= 15; n++) {
            long first = x.batch(0, n);
            for (int j = 0; j < n; j++) {
                check.due("next(0) as in batch(0, " + n + ")", y.next(0), first + j);
            }
        }
        check.due("issuer(0, 7)", x.issuer(0, 7), y.issuer(0, 7));
        check.due("issuer(0, 5)", x.issuer(0, 5), y.issuer(0, 5));
    }

    /** "IndexOutOfBoundsException likewise"; issuers 0 and 7 are the first and the last. */
    private static void noSuchIssuer(Check check) {
        IssueHouse x = new IssueHouse();
        for (int i = 0; i < 8; i++) {
            Play.start(x, i);
        }
        for (int i : new int[] {Integer.MIN_VALUE, -1, 8, Integer.MAX_VALUE}) {
            check.outOfBounds("batch(" + i + ", 1)", () -> x.batch(i, 1));
            check.outOfBounds("batch(" + i + ", 1024)", () -> x.batch(i, 1024));
        }
        for (int i = 0; i < 8; i++) {
            check.due("batch(" + i + ", 3)", x.batch(i, 3), Play.number(1, i, 0));
        }
    }

    /** "n numbers (1 .. 1024)": both ends are taken, what lies beside them is not. */
    private static void oneToAThousandAndTwentyFour(Check check) {
        for (int n : new int[] {1, 2, 1023, 1024}) {
            IssueHouse x = Play.readyAt(1000);
            check.due("batch(0, " + n + ")", x.batch(0, n), Play.number(1000, 0, 0));
            check.due("issuer(0, 7)", x.issuer(0, 7), n);
            check.due("next(0)", x.next(0), n == 1024 ? Play.number(1001, 0, 0) : Play.number(1000, 0, n));
        }
        for (int n : new int[] {Integer.MIN_VALUE, -1, 0, 1025, Integer.MAX_VALUE}) {
            IssueHouse x = Play.readyAt(1000);
            check.badArgument("batch(0, " + n + ")", () -> x.batch(0, n));
            check.due("issuer(0, 7)", x.issuer(0, 7), 0);
            check.due("next(0)", x.next(0), Play.number(1000, 0, 0));
            check.badArgument("batch(1, " + n + ") of one that is not ready", () -> x.batch(1, n));
        }
    }

    /** "as n times next()", n being 1: also where the counter runs over and where none is given. */
    private static void oneIsAsNext(Check check) {
        for (int given : new int[] {0, 1, 1022, 1023, 1024}) {
            for (long clock : new long[] {5000, 5001, 10000, 10001, 69999, 70000}) {
                Same.Calls before = x -> {
                    x.clock(0, 10000);
                    Play.start(x, 0);
                    if (given > 0) {
                        x.batch(0, given);
                    }
                    x.clock(0, clock);
                };
                IssueHouse one = new IssueHouse();
                before.on(one);
                IssueHouse other = new IssueHouse();
                before.on(other);
                check.due("batch(0, 1) as next(0)", one.batch(0, 1), other.next(0));
                check.due("issuer(0, 5)", one.issuer(0, 5), other.issuer(0, 5));
                check.due("issuer(0, 7)", one.issuer(0, 7), other.issuer(0, 7));
                check.due("next(0) behind it", one.next(0), other.next(0));
            }
        }
    }

    /** "if they do not all fit into the time at which that would go on": just all of them, and one more. */
    private static void fitsJust(Check check) {
        for (int given : new int[] {1, 500, 1022, 1023}) {
            int room = 1024 - given;
            IssueHouse x = Play.readyAt(1000);
            x.batch(0, given);
            check.due("batch(0, " + room + ")", x.batch(0, room), Play.number(1000, 0, given));
            check.due("next(0)", x.next(0), Play.number(1001, 0, 0));
            IssueHouse y = Play.readyAt(1000);
            y.batch(0, given);
            check.due("batch(0, " + (room + 1) + ")", y.batch(0, room + 1), Play.number(1001, 0, 0));
            check.due("issuer(0, 5)", y.issuer(0, 5), 1001);
            check.due("issuer(0, 7)", y.issuer(0, 7), 1025);
            check.due("next(0)", y.next(0), room == 1023 ? Play.number(1002, 0, 0) : Play.number(1001, 0, room + 1));
        }
    }

    /** "they begin with 0 at the one behind it": the rest of the time before is never given. */
    private static void aWholeTimeBehindAStartedOne(Check check) {
        IssueHouse x = Play.readyAt(1000);
        x.next(0);
        check.due("batch(0, 1024)", x.batch(0, 1024), Play.number(1001, 0, 0));
        x.clock(0, 1000);
        check.due("next(0)", x.next(0), Play.number(1002, 0, 0));
        check.due("issuer(0, 7)", x.issuer(0, 7), 1026);
    }

    /** Behind a full time next() would go on at the time behind it, into which all of them fit. */
    private static void behindAFullTime(Check check) {
        for (int n : new int[] {1, 2, 1023, 1024}) {
            IssueHouse x = Play.readyAt(1000);
            x.batch(0, 1024);
            check.due("batch(0, " + n + ")", x.batch(0, n), Play.number(1001, 0, 0));
            IssueHouse y = Play.readyAt(1000);
            y.batch(0, 1024);
            y.clock(0, 1001);
            check.due("batch(0, " + n + ") with the clock there", y.batch(0, n), Play.number(1001, 0, 0));
            y.clock(0, 1005);
            check.due("batch(0, 1024) with the clock behind", y.batch(0, 1024), Play.number(1005, 0, 0));
        }
    }

    /** "0, when they are not given": the time behind would be above the span's last. */
    private static void theEndOfTheSpan(Check check) {
        for (long clock = 60998; clock <= 61000; clock++) {
            IssueHouse x = Play.readyAt(1000);
            x.clock(0, clock);
            check.due("batch(0, 1024) at " + clock, x.batch(0, 1024), clock > 60999 ? 0 : Play.number(clock, 0, 0));
        }
        for (long clock = 60998; clock <= 60999; clock++) {
            IssueHouse x = Play.readyAt(1000);
            x.clock(0, clock);
            x.next(0);
            boolean given = clock == 60998;
            check.due("batch(0, 1024) behind " + clock, x.batch(0, 1024), given ? Play.number(60999, 0, 0) : 0);
            check.due("issuer(0, 7)", x.issuer(0, 7), given ? 1025 : 1);
            check.due("batch(0, 1023)", x.batch(0, 1023), given ? 0 : Play.number(60999, 0, 1));
        }
    }

    /** "0, when they are not given": the time, or the one behind it, would be 5001 above the clock. */
    private static void aheadOfTheClock(Check check) {
        for (long clock = 4999; clock <= 5001; clock++) {
            IssueHouse x = Play.readyAt(10000);
            x.clock(0, clock);
            check.due("batch(0, 1024) at " + clock, x.batch(0, 1024), clock < 5000 ? 0 : Play.number(10000, 0, 0));
            IssueHouse y = Play.readyAt(10000);
            y.next(0);
            y.clock(0, clock);
            check.due("batch(0, 1024) behind one, at " + clock, y.batch(0, 1024),
                    clock < 5001 ? 0 : Play.number(10001, 0, 0));
            check.due("issuer(0, 5)", y.issuer(0, 5), clock < 5001 ? 10000 : 10001);
        }
    }

    /** "0, when they are not given": before it is ready, and behind a crash. */
    private static void notReady(Check check) {
        IssueHouse x = new IssueHouse();
        check.due("batch(0, 1024) of a new object", x.batch(0, 1024), 0);
        x.start(0);
        check.due("batch(0, 1) while preparing", x.batch(0, 1), 0);
        Play.promises(x, 0, 1, 2);
        check.due("batch(0, 1) while accepting", x.batch(0, 1), 0);
        IssueHouse y = Play.readyAt(1000);
        y.crash(0);
        check.due("batch(0, 1) behind a crash", y.batch(0, 1), 0);
        check.due("issuer(0, 7)", y.issuer(0, 7), 0);
    }

    /** From 2^40 on the number, of 64 bits, is a negative long. */
    private static void wrapsAround(Check check) {
        IssueHouse x = Play.readyAt((1L << 40) - 1);
        check.due("batch(0, 1024)", x.batch(0, 1024), Long.MAX_VALUE - 8388607L);
        check.due("batch(0, 1024) at 2^40", x.batch(0, 1024), Long.MIN_VALUE);
        check.due("next(0)", x.next(0), Long.MIN_VALUE + 8388608L);
        check.due("issuer(0, 5)", x.issuer(0, 5), (1L << 40) + 1);
    }
}

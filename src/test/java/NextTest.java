/** Promise 13. */
public final class NextTest {
    public static void main(String[] args) {
        Check check = new Check();
        wrongInputs(check);
        notReady(check);
        firstNumbers(check);
        followsTheClock(check);
        countersRunOver(check);
        notFarAheadOfTheClock(check);
        notBehindTheSpan(check);
        counterBehindTheSpan(check);
        counterFarAhead(check);
        newSpanBeginsAnew(check);
        lateTimesWrapAround(check);
        noSuchIssuer(check);
        theClockBesideTheFirstOfTheSpan(check);
        theClockBesideTheLastGiven(check);
        everyCounterOnce(check);
        aheadOfTheFirstOfTheSpan(check);
        theEndOfTheSpan(check);
        bothLimitsAtOnce(check);
        theLastTimeOfAll(check);
        numbersRise(check);
        theFirstNumberOfAll(check);
        check.end();
    }

    private static void wrongInputs(Check check) {
        IssueHouse x = Play.readyAt(0);
        check.outOfBounds("next(-1)", () -> x.next(-1));
        check.outOfBounds("next(8)", () -> x.next(8));
    }

    private static void notReady(Check check) {
        IssueHouse x = new IssueHouse();
        check.due("next(0)", x.next(0), 0);
        x.start(0);
        check.due("next(0) while preparing", x.next(0), 0);
        Play.promises(x, 0, 1, 2);
        check.due("next(0) while accepting", x.next(0), 0);
        Play.accept(x, 0, 1, 2);
        x.deliver(4);
        x.deliver(4);
        x.deliver(4);
        check.due("next(0) when ready", x.next(0), Play.number(1, 0, 0));
        check.due("next(1)", x.next(1), 0);
    }

    private static void firstNumbers(Check check) {
        IssueHouse x = new IssueHouse();
        x.clock(1, 1000);
        Play.start(x, 0);
        Play.start(x, 1);
        for (int c = 0; c < 3; c++) {
            check.due("next(0)", x.next(0), Play.number(1, 0, c));
            check.due("next(1)", x.next(1), Play.number(1000, 1, c));
        }
    }

    private static void followsTheClock(Check check) {
        IssueHouse x = Play.readyAt(1000);
        x.next(0);
        x.next(0);
        x.clock(0, 1001);
        check.due("next(0) at 1001", x.next(0), Play.number(1001, 0, 0));
        x.clock(0, 0);
        check.due("next(0) back at 0", x.next(0), Play.number(1001, 0, 1));
    }

    private static void countersRunOver(Check check) {
        IssueHouse x = Play.readyAt(1000);
        x.batch(0, 1023);
        check.due("the last counter", x.next(0), Play.number(1000, 0, 1023));
        check.due("the one behind it", x.next(0), Play.number(1001, 0, 0));
        x.clock(0, 1001);
        check.due("with the clock there", x.next(0), Play.number(1001, 0, 1));
    }

    private static void notFarAheadOfTheClock(Check check) {
        IssueHouse x = Play.readyAt(10000);
        x.clock(0, 5000);
        check.due("next(0) 5000 ahead", x.next(0), Play.number(10000, 0, 0));
        x.clock(0, 4999);
        check.due("next(0) 5001 ahead", x.next(0), 0);
        check.due("issuer(0, 7)", x.issuer(0, 7), 1);
        x.clock(0, 5000);
        check.due("next(0) 5000 ahead again", x.next(0), Play.number(10000, 0, 1));
        x.clock(0, 12000);
        check.due("next(0) at 12000", x.next(0), Play.number(12000, 0, 0));
        x.clock(0, 6999);
        check.due("next(0) 5001 ahead of the last given", x.next(0), 0);
        x.clock(0, 7000);
        check.due("next(0) 5000 ahead of the last given", x.next(0), Play.number(12000, 0, 1));
    }

    private static void notBehindTheSpan(Check check) {
        IssueHouse x = Play.readyAt(1000);
        x.clock(0, 61000);
        check.due("next(0) behind the span", x.next(0), 0);
        check.due("issuer(0, 5)", x.issuer(0, 5), -1);
        x.clock(0, 60999);
        check.due("next(0) at the span's last", x.next(0), Play.number(60999, 0, 0));
        x.clock(0, 61000);
        check.due("next(0) behind the span again", x.next(0), 0);
        x.clock(0, 60000);
        check.due("next(0) back in it", x.next(0), Play.number(60999, 0, 1));
    }

    private static void counterBehindTheSpan(Check check) {
        IssueHouse x = Play.readyAt(1000);
        x.clock(0, 60999);
        x.batch(0, 1024);
        check.due("next(0) behind the last counter of the span", x.next(0), 0);
        check.due("issuer(0, 5)", x.issuer(0, 5), 60999);
        check.due("issuer(0, 7)", x.issuer(0, 7), 1024);
        check.due("next(0) again", x.next(0), 0);
    }

    private static void counterFarAhead(Check check) {
        IssueHouse x = Play.readyAt(10000);
        x.batch(0, 1024);
        x.clock(0, 5000);
        check.due("next(0), the time behind being 5001 ahead", x.next(0), 0);
        x.clock(0, 5001);
        check.due("next(0), the time behind being 5000 ahead", x.next(0), Play.number(10001, 0, 0));
    }

    private static void newSpanBeginsAnew(Check check) {
        IssueHouse x = Play.readyAt(1000);
        x.next(0);
        Play.prolong(x, 0);
        x.clock(0, 56000);
        check.due("next(0) at the new span's first", x.next(0), Play.number(61000, 0, 0));
        x.crash(0);
        Play.start(x, 0);
        check.due("next(0) with the span behind", x.next(0), 0);
        x.clock(0, 116000);
        check.due("next(0) at its first", x.next(0), Play.number(121000, 0, 0));
        check.due("issuer(0, 7)", x.issuer(0, 7), 3);
    }

    /** From 2^40 on the number, of 64 bits, is a negative long. */
    private static void lateTimesWrapAround(Check check) {
        IssueHouse x = Play.readyAt((1L << 40) - 1);
        x.batch(0, 1023);
        check.due("the last one above 0", x.next(0), Long.MAX_VALUE - 0x7ffc00L);
        check.due("the one behind it", x.next(0), Long.MIN_VALUE);
        IssueHouse y = Play.readyAt(Play.LATEST - 59999);
        y.clock(0, Play.LATEST);
        check.due("at the latest time", y.next(0), -8388608L);
    }

    /** "IndexOutOfBoundsException likewise"; issuers 0 and 7 are the first and the last. */
    private static void noSuchIssuer(Check check) {
        IssueHouse x = new IssueHouse();
        for (int i = 0; i < 8; i++) {
            Play.start(x, i);
        }
        for (int i : new int[] {Integer.MIN_VALUE, -1, 8, Integer.MAX_VALUE}) {
            check.outOfBounds("next(" + i + ")", () -> x.next(i));
        }
        for (int i = 0; i < 8; i++) {
            check.due("next(" + i + ")", x.next(i), Play.number(1, i, 0));
        }
    }

    /** "the time is its clock, or the span's first ... whichever is latest". */
    private static void theClockBesideTheFirstOfTheSpan(Check check) {
        for (long clock = 999; clock <= 1001; clock++) {
            IssueHouse x = Play.readyAt(1000);
            x.clock(0, clock);
            check.due("next(0) at " + clock, x.next(0), Play.number(clock < 1000 ? 1000 : clock, 0, 0));
        }
    }

    /** "or the last one that it gave with this span, whichever is latest": one before it, the same, one later. */
    private static void theClockBesideTheLastGiven(Check check) {
        long[] due = {Play.number(3000, 0, 1), Play.number(3000, 0, 1), Play.number(3001, 0, 0)};
        for (int later = -1; later <= 1; later++) {
            IssueHouse x = Play.readyAt(1000);
            x.clock(0, 3000);
            x.next(0);
            x.clock(0, 3000 + later);
            check.due("next(0) at " + (3000 + later), x.next(0), due[later + 1]);
        }
    }

    /** "counter (0 .. 1023)": 1022, 1023, and 0 of the time behind, the clock standing still. */
    private static void everyCounterOnce(Check check) {
        IssueHouse x = Play.readyAt(1000);
        x.batch(0, 1022);
        check.due("next(0) behind 1021", x.next(0), Play.number(1000, 0, 1022));
        check.due("next(0) behind 1022", x.next(0), Play.number(1000, 0, 1023));
        check.due("next(0) behind 1023", x.next(0), Play.number(1001, 0, 0));
        check.due("issuer(0, 5)", x.issuer(0, 5), 1001);
        x.batch(0, 1023);
        check.due("next(0) behind 1023 again", x.next(0), Play.number(1002, 0, 0));
    }

    /** "or more than 5000 above the clock", by the span's first. */
    private static void aheadOfTheFirstOfTheSpan(Check check) {
        for (long clock = 55999; clock <= 56001; clock++) {
            IssueHouse x = Play.readyAt(1000);
            Play.prolong(x, 0);
            x.clock(0, clock);
            check.due("next(0) at " + clock, x.next(0), clock < 56000 ? 0 : Play.number(61000, 0, 0));
        }
    }

    /** "when the time would be above the span's last", by the clock and by a counter that runs over. */
    private static void theEndOfTheSpan(Check check) {
        for (long clock = 60998; clock <= 61000; clock++) {
            IssueHouse x = Play.readyAt(1000);
            x.clock(0, clock);
            check.due("next(0) at " + clock, x.next(0), clock > 60999 ? 0 : Play.number(clock, 0, 0));
        }
        for (long clock = 60998; clock <= 60999; clock++) {
            IssueHouse x = Play.readyAt(1000);
            x.clock(0, clock);
            x.batch(0, 1024);
            check.due("next(0) behind a full " + clock, x.next(0), clock == 60999 ? 0 : Play.number(60999, 0, 0));
        }
    }

    /** The span's last time, given while the clock was there, and 5000 or 5001 ahead of it later. */
    private static void bothLimitsAtOnce(Check check) {
        IssueHouse x = Play.readyAt(1000);
        x.clock(0, 60999);
        x.batch(0, 1022);
        x.clock(0, 55998);
        check.due("next(0), 5001 ahead", x.next(0), 0);
        x.clock(0, 55999);
        check.due("next(0), 5000 ahead", x.next(0), Play.number(60999, 0, 1022));
        check.due("next(0), the last of the span", x.next(0), Play.number(60999, 0, 1023));
        check.due("next(0), behind it", x.next(0), 0);
        check.issuer(x, 0, 1, 0, 0, 1, 60999, 60999, 0, 1024);
    }

    /** A span may end with 2^41 - 1, and numbers are given up to its last counter. */
    private static void theLastTimeOfAll(Check check) {
        IssueHouse x = Play.readyAt(Play.LATEST - 59999);
        x.clock(0, Play.LATEST);
        check.due("batch(0, 1023)", x.batch(0, 1023), -8388608L);
        check.due("the last number of all", x.next(0), -8388608L + 1023);
        check.due("next(0) behind it", x.next(0), 0);
        check.due("issuer(0, 5)", x.issuer(0, 5), Play.LATEST);
    }

    /** Whatever the clock does, numbers of one span rise: none is given twice. */
    private static void numbersRise(Check check) {
        IssueHouse x = Play.readyAt(1000);
        long last = 0;
        long[] clocks = {1000, 1001, 1000, 6001, 1001, 1000, 6002, 0, 60999, 56000, 61000};
        for (long clock : clocks) {
            x.clock(0, clock);
            for (int j = 0; j < 3; j++) {
                long number = x.next(0);
                if (number != 0 && number <= last) {
                    check.report("next(0) at " + clock + " answered " + number + " behind " + last);
                }
                last = number != 0 ? number : last;
            }
        }
    }

    /** No span begins before 1, so that no number is the 0 that says there is none. */
    private static void theFirstNumberOfAll(Check check) {
        IssueHouse x = new IssueHouse();
        x.clock(0, 0);
        Play.start(x, 0);
        check.due("next(0)", x.next(0), 8388608);
    }
}

/** Promise 16. */
public final class PartTest {
    public static void main(String[] args) {
        Check check = new Check();
        wrongInputs(check);
        partsOf(check, 0, 0, 0, 0);
        partsOf(check, 1023, 0, 0, 1023);
        partsOf(check, 1024, 0, 1, 0);
        partsOf(check, 7 * 1024 + 5, 0, 7, 5);
        partsOf(check, 8388607, 0, 8191, 1023);
        partsOf(check, 8388608, 1, 0, 0);
        partsOf(check, Play.number(123456789, 6, 321), 123456789, 6, 321);
        partsOf(check, Long.MAX_VALUE, (1L << 40) - 1, 8191, 1023);
        ofAGivenNumber(check);
        besideZero(check);
        noSuchWhat(check);
        ofTheLastSeatAndCounter(check);
        ofTheLastTimeThatIsNotBelowZero(check);
        check.end();
    }

    private static void partsOf(Check check, long number, long... due) {
        IssueHouse x = new IssueHouse();
        for (int what = 0; what < 3; what++) {
            check.due("part(" + number + ", " + what + ")", x.part(number, what), due[what]);
        }
    }

    private static void wrongInputs(Check check) {
        IssueHouse x = new IssueHouse();
        for (int what = -1; what <= 3; what++) {
            int w = what;
            check.badArgument("part(-1, " + w + ")", () -> x.part(-1, w));
            check.badArgument("part(least, " + w + ")", () -> x.part(Long.MIN_VALUE, w));
        }
        check.badArgument("part(0, -1)", () -> x.part(0, -1));
        check.badArgument("part(0, 3)", () -> x.part(0, 3));
        check.badArgument("part(5, greatest)", () -> x.part(5, Integer.MAX_VALUE));
        check.badArgument("part(5, least)", () -> x.part(5, Integer.MIN_VALUE));
    }

    private static void ofAGivenNumber(Check check) {
        IssueHouse x = new IssueHouse();
        Play.start(x, 0);
        x.clock(1, 4321);
        Play.start(x, 1);
        x.batch(1, 10);
        long number = x.next(1);
        check.due("its time", x.part(number, 0), 4321);
        check.due("its seat", x.part(number, 1), 1);
        check.due("its counter", x.part(number, 2), 10);
    }

    /** "IllegalArgumentException, when it is below 0": 0 and 1 are taken, -1 is not. */
    private static void besideZero(Check check) {
        partsOf(check, 1, 0, 0, 1);
        IssueHouse x = new IssueHouse();
        for (long number : new long[] {-1, -8388608L, Long.MIN_VALUE + 1, Long.MIN_VALUE}) {
            for (int what = 0; what < 3; what++) {
                int w = what;
                check.badArgument("part(" + number + ", " + w + ")", () -> x.part(number, w));
            }
        }
    }

    /** "or for another what": 0 and 2 are taken, -1 and 3 are not. */
    private static void noSuchWhat(Check check) {
        IssueHouse x = new IssueHouse();
        for (long number : new long[] {0, 1, 8388608, Long.MAX_VALUE}) {
            for (int what : new int[] {Integer.MIN_VALUE, -1, 3, 4, Integer.MAX_VALUE}) {
                check.badArgument("part(" + number + ", " + what + ")", () -> x.part(number, what));
            }
        }
    }

    private static void ofTheLastSeatAndCounter(Check check) {
        IssueHouse x = new IssueHouse();
        for (int i = 0; i < 8; i++) {
            Play.start(x, i);
        }
        x.batch(7, 1023);
        partsOf(check, x.next(7), 1, 7, 1023);
        partsOf(check, x.next(7), 2, 7, 0);
    }

    /** A number of a time from 2^40 on is below 0. */
    private static void ofTheLastTimeThatIsNotBelowZero(Check check) {
        IssueHouse x = Play.readyAt((1L << 40) - 1);
        x.batch(0, 1023);
        partsOf(check, x.next(0), (1L << 40) - 1, 0, 1023);
        long behind = x.next(0);
        for (int what = 0; what < 3; what++) {
            int w = what;
            check.badArgument("part(" + behind + ", " + w + ")", () -> x.part(behind, w));
        }
    }
}

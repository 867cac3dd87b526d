/** Calls that only tell something, and numbers that are not given: they change nothing. */
public final class LookTest {
    private final Check check;
    private final Same.Calls before;

    private LookTest(Check check, Same.Calls before) {
        this.check = check;
        this.before = before;
    }

    public static void main(String[] args) {
        Check check = new Check();
        looks(check);
        numbersNotGiven(check);
        check.end();
    }

    private void only(String text, long due, Same.Call call) {
        Same.answers(check, text, due, before, call);
    }

    private static void looks(Check check) {
        LookTest busy = new LookTest(check, Play::busy);
        busy.only("letters()", Play.BUSY_LETTERS, x -> x.letters());
        int[] kinds = {0, 0, 2, 0, 0, 1, 4, 3};
        for (int k = 0; k < Play.BUSY_LETTERS; k++) {
            int at = k;
            busy.only("letter(" + at + ", 0)", kinds[at], x -> x.letter(at, 0));
        }
        busy.only("letter(2, 4)", 1, x -> x.letter(2, 4));
        busy.only("letter(6, 5)", 22, x -> x.letter(6, 5));
        long[] told = {1, 0, 0, 1, 69999, 10000, 0, 1};
        for (int what = 0; what < 8; what++) {
            int w = what;
            busy.only("issuer(0, " + w + ")", told[w], x -> x.issuer(0, w));
        }
        busy.only("seat(0, 2)", 69999, x -> x.seat(0, 2));
        busy.only("seat(7, 2)", -1, x -> x.seat(7, 2));
        busy.only("part(8388608, 0)", 1, x -> x.part(8388608, 0));
    }

    private static void numbersNotGiven(Check check) {
        LookTest busy = new LookTest(check, Play::busy);
        for (int i : new int[] {1, 2, 4, 6}) {
            busy.notGiven("not ready: ", i);
        }
        new LookTest(check, x -> readyWithClock(x, 10000, 4999)).notGiven("5001 ahead: ", 0);
        new LookTest(check, x -> readyWithClock(x, 10000, 70000)).notGiven("behind the span: ", 0);
        new LookTest(check, x -> {
            readyWithClock(x, 10000, 69999);
            x.batch(0, 1024);
        }).notGiven("behind the span's last number: ", 0);
        new LookTest(check, x -> {
            readyWithClock(x, 10000, 10000);
            x.batch(0, 1024);
            x.clock(0, 5000);
        }).notGiven("5001 ahead behind a full time: ", 0);
        batchesNotGiven(check);
    }

    private void notGiven(String text, int i) {
        only(text + "next(" + i + ")", 0, x -> x.next(i));
        only(text + "batch(" + i + ", 1)", 0, x -> x.batch(i, 1));
        only(text + "batch(" + i + ", 1024)", 0, x -> x.batch(i, 1024));
    }

    private static void batchesNotGiven(Check check) {
        new LookTest(check, x -> {
            readyWithClock(x, 10000, 69999);
            x.batch(0, 1000);
        }).only("batch(0, 25) with 24 left of the span", 0, x -> x.batch(0, 25));
        new LookTest(check, x -> {
            readyWithClock(x, 10000, 10000);
            x.batch(0, 1000);
            x.clock(0, 5000);
        }).only("batch(0, 25) with 24 left of the time 5000 ahead", 0, x -> x.batch(0, 25));
    }

    private static void readyWithClock(IssueHouse x, long first, long clock) {
        x.clock(0, first);
        Play.start(x, 0);
        x.clock(0, clock);
    }
}

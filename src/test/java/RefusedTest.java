/** Every call that the document refuses: it throws what is due, and it changes nothing. */
public final class RefusedTest {
    private static final int LEAST = Integer.MIN_VALUE;
    private static final int GREATEST = Integer.MAX_VALUE;
    private static final int[] NO_ISSUERS = {LEAST, -1, 8, GREATEST};
    private static final int[] NO_NODES = {LEAST, -1, 5, 8, GREATEST};
    private static final int[] NO_SEATS = {LEAST, -1, 8, GREATEST};

    private static final Class<IndexOutOfBoundsException> INDEX = IndexOutOfBoundsException.class;
    private static final Class<IllegalStateException> STATE = IllegalStateException.class;
    private static final Class<IllegalArgumentException> ARGUMENT = IllegalArgumentException.class;

    private final Check check;
    private final String when;
    private final Same.Calls before;

    private RefusedTest(Check check, String when, Same.Calls before) {
        this.check = check;
        this.when = when;
        this.before = before;
    }

    public static void main(String[] args) {
        Check check = new Check();
        new RefusedTest(check, " of a new object", x -> { }).wrongArguments(0);
        new RefusedTest(check, " in the midst", Play::busy).wrongArguments(Play.BUSY_LETTERS);
        new RefusedTest(check, " with 90 letters", x -> Play.crowded(x, 90)).wrongArguments(90);
        new RefusedTest(check, " in the midst", Play::busy).startsInTheMidst();
        new RefusedTest(check, " of one that prolongs", Play::prolonging).startsWhileProlonging();
        new RefusedTest(check, " of one that prolongs, far", Play::prolongingFar).startsWhileProlonging();
        for (int letters = 86; letters <= 90; letters++) {
            int many = letters;
            new RefusedTest(check, " with " + many, x -> Play.crowded(x, many)).attemptsWithoutRoom();
        }
        for (int letters = 87; letters <= 90; letters++) {
            int many = letters;
            new RefusedTest(check, " with " + many, x -> Play.crowded(x, many)).acceptWithoutRoom();
            new RefusedTest(check, " prolonging with " + many, x -> {
                Play.prolonging(x);
                Play.fill(x, 0, many);
            }).acceptWithoutRoomWhileProlonging();
        }
        new RefusedTest(check, " with 90 letters", x -> Play.crowded(x, 90)).twinsWithoutRoom();
        check.end();
    }

    private void refused(String text, Class<? extends RuntimeException> due, Same.Call call) {
        Same.refuses(check, text + when, due, before, call);
    }

    private void refusedCalls(String text, Class<? extends RuntimeException> due, Same.Calls calls) {
        refused(text, due, Same.call(calls));
    }

    private void wrongArguments(int letters) {
        for (int i : NO_ISSUERS) {
            noSuchIssuer(i);
        }
        for (int n : NO_NODES) {
            refusedCalls("node(" + n + ", false)", INDEX, x -> x.node(n, false));
            refusedCalls("node(" + n + ", true)", INDEX, x -> x.node(n, true));
        }
        for (int k : new int[] {LEAST, -1, letters, 91, GREATEST}) {
            noSuchLetter(k);
        }
        for (int s : NO_SEATS) {
            refused("seat(" + s + ", 0)", INDEX, x -> x.seat(s, 0));
            refused("seat(" + s + ", 2)", INDEX, x -> x.seat(s, 2));
        }
        noSuchWhat(letters);
        noTime();
        notSoManyNumbers();
        noNumber();
    }

    private void noSuchIssuer(int i) {
        refusedCalls("clock(" + i + ", 0)", INDEX, x -> x.clock(i, 0));
        refusedCalls("clock(" + i + ", 70000)", INDEX, x -> x.clock(i, 70000));
        refusedCalls("start(" + i + ")", INDEX, x -> x.start(i));
        refusedCalls("prolong(" + i + ")", INDEX, x -> x.prolong(i));
        refusedCalls("crash(" + i + ")", INDEX, x -> x.crash(i));
        refused("issuer(" + i + ", 0)", INDEX, x -> x.issuer(i, 0));
        refused("issuer(" + i + ", 7)", INDEX, x -> x.issuer(i, 7));
        refused("next(" + i + ")", INDEX, x -> x.next(i));
        refused("batch(" + i + ", 1)", INDEX, x -> x.batch(i, 1));
        refused("batch(" + i + ", 1024)", INDEX, x -> x.batch(i, 1024));
    }

    private void noSuchLetter(int k) {
        refused("deliver(" + k + ")", INDEX, x -> x.deliver(k));
        refusedCalls("lose(" + k + ")", INDEX, x -> x.lose(k));
        refusedCalls("twin(" + k + ")", INDEX, x -> x.twin(k));
        refused("letter(" + k + ", 0)", INDEX, x -> x.letter(k, 0));
        refused("letter(" + k + ", 5)", INDEX, x -> x.letter(k, 5));
    }

    private void noSuchWhat(int letters) {
        for (int what : new int[] {LEAST, -1, 6, GREATEST}) {
            for (int k = 0; k < letters && k < Play.BUSY_LETTERS; k++) {
                int at = k;
                refused("letter(" + at + ", " + what + ")", INDEX, x -> x.letter(at, what));
            }
        }
        for (int i = 0; i < 8; i++) {
            int at = i;
            for (int what : new int[] {LEAST, -1, 8, GREATEST}) {
                refused("issuer(" + at + ", " + what + ")", INDEX, x -> x.issuer(at, what));
            }
            for (int what : new int[] {LEAST, -1, 3, GREATEST}) {
                refused("seat(" + at + ", " + what + ")", INDEX, x -> x.seat(at, what));
            }
        }
    }

    private void noTime() {
        for (int i = 0; i < 8; i++) {
            int at = i;
            for (long t : new long[] {Long.MIN_VALUE, -1, Play.LATEST + 1, Long.MAX_VALUE}) {
                refusedCalls("clock(" + at + ", " + t + ")", ARGUMENT, x -> x.clock(at, t));
            }
        }
    }

    private void notSoManyNumbers() {
        for (int i = 0; i < 8; i++) {
            int at = i;
            for (int n : new int[] {LEAST, -1, 0, 1025, GREATEST}) {
                refused("batch(" + at + ", " + n + ")", ARGUMENT, x -> x.batch(at, n));
            }
        }
    }

    private void noNumber() {
        for (int what = -1; what <= 3; what++) {
            int w = what;
            refused("part(-1, " + w + ")", ARGUMENT, x -> x.part(-1, w));
            refused("part(least, " + w + ")", ARGUMENT, x -> x.part(Long.MIN_VALUE, w));
        }
        for (int what : new int[] {LEAST, -1, 3, GREATEST}) {
            refused("part(0, " + what + ")", ARGUMENT, x -> x.part(0, what));
            refused("part(greatest, " + what + ")", ARGUMENT, x -> x.part(Long.MAX_VALUE, what));
        }
    }

    /** Issuer 0 is ready, 4 accepting, 6 preparing; 1 failed, and 2 never began. */
    private void startsInTheMidst() {
        for (int i : new int[] {0, 4, 6}) {
            refusedCalls("start(" + i + ")", STATE, x -> x.start(i));
        }
        for (int i : new int[] {1, 2, 4, 6, 7}) {
            refusedCalls("prolong(" + i + ")", STATE, x -> x.prolong(i));
        }
    }

    private void startsWhileProlonging() {
        refusedCalls("start(0)", STATE, x -> x.start(0));
        refusedCalls("prolong(0)", STATE, x -> x.prolong(0));
    }

    private void attemptsWithoutRoom() {
        for (int i = 0; i < 8; i++) {
            int at = i;
            refusedCalls("start(" + at + ")", STATE, x -> x.start(at));
            refusedCalls("prolong(" + at + ")", STATE, x -> x.prolong(at));
        }
    }

    private void acceptWithoutRoom() {
        int third = Play.BUSY_THIRD_PROMISE;
        refused("deliver(" + third + ")", STATE, x -> x.deliver(third));
    }

    private void acceptWithoutRoomWhileProlonging() {
        refused("deliver(2)", STATE, x -> x.deliver(2));
    }

    private void twinsWithoutRoom() {
        for (int k : new int[] {0, 1, 2, 3, 4, 5, 6, 7, 88, 89}) {
            refusedCalls("twin(" + k + ")", STATE, x -> x.twin(k));
        }
    }
}

/** Promise 11. */
public final class LetterTest {
    public static void main(String[] args) {
        Check check = new Check();
        wrongInputs(check);
        everyKind(check);
        placesAreUsedAgain(check);
        check.end();
    }

    private static void wrongInputs(Check check) {
        IssueHouse x = new IssueHouse();
        check.outOfBounds("letter(0, 0)", () -> x.letter(0, 0));
        x.start(0);
        check.outOfBounds("letter(-1, 0)", () -> x.letter(-1, 0));
        check.outOfBounds("letter(5, 0)", () -> x.letter(5, 0));
        check.outOfBounds("letter(0, -1)", () -> x.letter(0, -1));
        check.outOfBounds("letter(0, 6)", () -> x.letter(0, 6));
        check.outOfBounds("letter(5, 6)", () -> x.letter(5, 6));
        check.due("letter(4, 5)", x.letter(4, 5), -1);
        Play.fill(x, 0, 90);
        check.outOfBounds("letter(90, 0)", () -> x.letter(90, 0));
        check.due("letter(89, 0)", x.letter(89, 0), 0);
    }

    private static void everyKind(Check check) {
        IssueHouse x = new IssueHouse();
        Play.start(x, 2);
        x.start(6);
        letterIs(check, x, 3, 0, 6, 3, 14, -1, -1);
        x.deliver(0);
        letterIs(check, x, 4, 1, 6, 0, 14, -1, -1);
        x.deliver(0);
        x.deliver(0);
        for (int n = 0; n < 3; n++) {
            x.deliver(2);
        }
        letterIs(check, x, 5, 2, 6, 3, 14, 1, -1);
        x.deliver(5);
        letterIs(check, x, 6, 3, 6, 3, 14, -1, -1);
        x.start(5);
        x.deliver(10);
        letterIs(check, x, 11, 4, 5, 3, 13, -1, 14);
    }

    /** A letter tells nothing of one that lay in its place before. */
    private static void placesAreUsedAgain(Check check) {
        IssueHouse x = new IssueHouse();
        x.start(7);
        Play.promises(x, 0, 1, 2);
        Play.clear(x);
        x.start(1);
        Play.clearBut(x, 5);
        for (int n = 0; n < 5; n++) {
            letterIs(check, x, n, 0, 1, n, 9, -1, -1);
        }
        x.deliver(0);
        letterIs(check, x, 4, 4, 1, 0, 9, -1, 15);
        Play.clear(x);
        for (int i = 2; i < 7; i++) {
            x.start(i);
        }
        for (int k = 0; k < 25; k++) {
            letterIs(check, x, k, 0, 2 + k / 5, k % 5, 10 + k / 5, -1, -1);
        }
    }

    private static void letterIs(Check check, IssueHouse x, int k, int... due) {
        for (int what = 0; what < 6; what++) {
            check.due("letter(" + k + ", " + what + ")", x.letter(k, what), due[what]);
        }
    }
}

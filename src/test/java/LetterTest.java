/** Promise 11. */
public final class LetterTest {
    public static void main(String[] args) {
        Check check = new Check();
        wrongInputs(check);
        everyKind(check);
        placesAreUsedAgain(check);
        noSuchLetterOrWhat(check);
        everyKindTellsAllOrNone(check);
        ofEveryIssuerAndNode(check);
        check.end();
    }

    private static void wrongInputs(Check check) {
        IssueHouse x = new IssueHouse();
        check.outOfBounds("letter(0, 0)", () -> x.letter(0, 0));
        x.start(0);
        check.outOfBounds("letter(-1, 0)", () -> x.letter(-1, 0));
        check.outOfBounds("letter(5, 0)", () -> x.letter(5, 0));
        check.outOfBounds("letter(0, -1)", () -> x.letter(0, -1));
        check.outOfBounds("letter(0, 6)", () -> x.letter(0, 6));
        check.outOfBounds("letter(5, 6)", () -> x.letter(5, 6));
        check.due("letter(4, 5)", x.letter(4, 5), -1);
        Play.fill(x, 0, 90);
        check.outOfBounds("letter(90, 0)", () -> x.letter(90, 0));
        check.due("letter(89, 0)", x.letter(89, 0), 0);
    }

    private static void everyKind(Check check) {
        IssueHouse x = new IssueHouse();
        Play.start(x, 2);
        x.start(6);
        check.letter(x, 3, 0, 6, 3, 14, -1, -1);
        x.deliver(0);
        check.letter(x, 4, 1, 6, 0, 14, -1, -1);
        x.deliver(0);
        x.deliver(0);
        for (int n = 0; n < 3; n++) {
            x.deliver(2);
        }
        check.letter(x, 5, 2, 6, 3, 14, 1, -1);
        x.deliver(5);
        check.letter(x, 6, 3, 6, 3, 14, -1, -1);
        x.start(5);
        x.deliver(10);
        check.letter(x, 11, 4, 5, 3, 13, -1, 14);
    }

    /** A letter tells nothing of one that lay in its place before. */
    private static void placesAreUsedAgain(Check check) {
        IssueHouse x = new IssueHouse();
        x.start(7);
        Play.promises(x, 0, 1, 2);
        Play.clear(x);
        x.start(1);
        Play.clearBut(x, 5);
        for (int n = 0; n < 5; n++) {
            check.letter(x, n, 0, 1, n, 9, -1, -1);
        }
        x.deliver(0);
        check.letter(x, 4, 4, 1, 0, 9, -1, 15);
        Play.clear(x);
        for (int i = 2; i < 7; i++) {
            x.start(i);
        }
        for (int k = 0; k < 25; k++) {
            check.letter(x, k, 0, 2 + k / 5, k % 5, 10 + k / 5, -1, -1);
        }
    }

    /** "IndexOutOfBoundsException, when there is none such, or what": both ends of both. */
    private static void noSuchLetterOrWhat(Check check) {
        for (int many : new int[] {0, 1, 5, 90}) {
            IssueHouse x = new IssueHouse();
            x.start(0);
            Play.fill(x, 0, many);
            Play.clearBut(x, many);
            for (int k : new int[] {Integer.MIN_VALUE, -1, many, many + 1, Integer.MAX_VALUE}) {
                for (int what = 0; what < 6; what++) {
                    int w = what;
                    check.outOfBounds("letter(" + k + ", " + w + ") with " + many, () -> x.letter(k, w));
                }
            }
            for (int what : new int[] {Integer.MIN_VALUE, -1, 6, Integer.MAX_VALUE}) {
                check.outOfBounds("letter(0, " + what + ") with " + many, () -> x.letter(0, what));
                check.outOfBounds("letter(last, " + what + ") with " + many, () -> x.letter(many - 1, what));
            }
        }
    }

    /** "of ACCEPT the seat (4), of NO the promised number (5), else NONE": the seat being 0 and 7 too. */
    private static void everyKindTellsAllOrNone(Check check) {
        IssueHouse x = new IssueHouse();
        Play.busy(x);
        check.letter(x, 0, 0, 4, 3, 12, -1, -1);
        check.letter(x, 1, 0, 4, 4, 12, -1, -1);
        check.letter(x, 2, 2, 4, 4, 12, 1, -1);
        check.letter(x, 3, 0, 6, 3, 22, -1, -1);
        check.letter(x, 4, 0, 6, 4, 22, -1, -1);
        check.letter(x, 5, 1, 6, 2, 22, -1, -1);
        check.letter(x, 6, 4, 4, 2, 12, -1, 22);
        check.letter(x, 7, 3, 4, 3, 12, -1, -1);
        IssueHouse y = new IssueHouse();
        for (int i = 0; i < 8; i++) {
            y.start(i);
            Play.promises(y, 0, 1, 2);
            check.letter(y, 6, 2, i, 4, 8 + i, i, -1);
            Play.accept(y, 0, 1, 2);
            Play.clear(y);
        }
    }

    private static void ofEveryIssuerAndNode(Check check) {
        IssueHouse x = new IssueHouse();
        for (int i = 0; i < 8; i++) {
            x.start(i);
        }
        for (int k = 0; k < 40; k++) {
            check.letter(x, k, 0, k / 5, k % 5, 8 + k / 5, -1, -1);
        }
    }
}

/** Promise 10. */
public final class TwinTest {
    public static void main(String[] args) {
        Check check = new Check();
        wrongInputs(check);
        everyKindIsDoubled(check);
        acceptIsDoubledWhole(check);
        promiseIsDoubledWhole(check);
        noSuchLetter(check);
        roomForJustOne(check);
        theOnlyLetter(check);
        aTwinGoesToTheEnd(check);
        aTwinDoesWhatItsLetterDoes(check);
        check.end();
    }

    private static void wrongInputs(Check check) {
        IssueHouse x = new IssueHouse();
        check.outOfBounds("twin(0)", () -> x.twin(0));
        x.start(0);
        check.outOfBounds("twin(-1)", () -> x.twin(-1));
        check.outOfBounds("twin(5)", () -> x.twin(5));
        Play.fill(x, 4, 89);
        x.twin(88);
        check.due("letters()", x.letters(), 90);
        check.badState("twin(0) with 90", () -> x.twin(0));
        check.badState("twin(89) with 90", () -> x.twin(89));
        check.outOfBounds("twin(90) with 90", () -> x.twin(90));
        check.due("letters()", x.letters(), 90);
        check.due("letter(89, 2)", x.letter(89, 2), 4);
    }

    private static void everyKindIsDoubled(Check check) {
        IssueHouse x = new IssueHouse();
        x.start(1);
        isDoubled(check, x, 3, Play.PREPARE);
        x.deliver(0);
        isDoubled(check, x, 5, Play.PROMISE);
        x.twin(0);
        x.deliver(0);
        x.deliver(x.letters() - 2);
        isDoubled(check, x, x.letters() - 1, Play.NO);
        IssueHouse y = new IssueHouse();
        y.start(1);
        Play.promises(y, 0, 1, 2);
        isDoubled(check, y, 4, Play.ACCEPT);
        y.deliver(4);
        isDoubled(check, y, 7, Play.YES);
    }

    private static void isDoubled(Check check, IssueHouse x, int k, int kind) {
        int last = x.letters();
        x.twin(k);
        check.due("letters()", x.letters(), last + 1);
        check.due("kind", x.letter(last, 0), kind);
        for (int what = 0; what < 6; what++) {
            check.due("letter(" + last + ", " + what + ")", x.letter(last, what), x.letter(k, what));
        }
    }

    private static void promiseIsDoubledWhole(Check check) {
        IssueHouse x = Play.readyAt(1000);
        x.start(1);
        for (int n = 0; n < 3; n++) {
            x.deliver(0);
        }
        for (int n = 0; n < 3; n++) {
            x.twin(2 + n);
        }
        Play.clearBut(x, 3);
        for (int n = 0; n < 3; n++) {
            x.deliver(0);
        }
        check.due("letters()", x.letters(), 5);
        check.due("the seat, seat 0 being held", x.letter(0, 4), 1);
    }

    private static void acceptIsDoubledWhole(Check check) {
        IssueHouse x = new IssueHouse();
        x.clock(0, 1000);
        x.start(0);
        Play.promises(x, 0, 1, 2);
        x.twin(3);
        Play.clearBut(x, 1);
        x.deliver(0);
        check.due("kind of the answer", x.letter(0, 0), Play.YES);
        check.due("node of the answer", x.letter(0, 2), 1);
        check.due("seat(0, 0)", x.seat(0, 0), 0);
        check.due("seat(0, 1)", x.seat(0, 1), 1);
        check.due("seat(0, 2)", x.seat(0, 2), 60999);
    }

    /** "IndexOutOfBoundsException likewise", without letters, with some and with 90. */
    private static void noSuchLetter(Check check) {
        for (int many : new int[] {0, 5, 90}) {
            IssueHouse x = new IssueHouse();
            if (many > 0) {
                x.start(0);
                Play.fill(x, 0, many);
            }
            for (int k : new int[] {Integer.MIN_VALUE, -1, many, many + 1, Integer.MAX_VALUE}) {
                check.outOfBounds("twin(" + k + ") with " + many, () -> x.twin(k));
            }
            check.due("letters()", x.letters(), many);
        }
    }

    /** "IllegalStateException, when there are 90": letters of every kind, and not with 89. */
    private static void roomForJustOne(Check check) {
        for (int k = 0; k < Play.BUSY_LETTERS; k++) {
            int at = k;
            IssueHouse x = new IssueHouse();
            Play.crowded(x, 89);
            x.twin(at);
            check.due("letters()", x.letters(), 90);
            check.due("letter(89, 0)", x.letter(89, 0), x.letter(at, 0));
            check.badState("twin(" + at + ") with 90", () -> x.twin(at));
            check.due("letters()", x.letters(), 90);
            x.lose(89);
            x.twin(88);
            check.due("letters(), having had room again", x.letters(), 90);
        }
    }

    private static void theOnlyLetter(Check check) {
        IssueHouse x = new IssueHouse();
        x.start(6);
        Play.clearBut(x, 1);
        x.twin(0);
        check.due("letters()", x.letters(), 2);
        check.letter(x, 0, Play.PREPARE, 6, 4, 14, -1, -1);
        check.letter(x, 1, Play.PREPARE, 6, 4, 14, -1, -1);
    }

    /** "is sent once more": letters lie "in the order in which they were sent". */
    private static void aTwinGoesToTheEnd(Check check) {
        IssueHouse x = new IssueHouse();
        x.start(0);
        x.twin(0);
        x.twin(4);
        x.twin(2);
        int[] nodes = {0, 1, 2, 3, 4, 0, 4, 2};
        for (int k = 0; k < 8; k++) {
            check.letter(x, k, Play.PREPARE, 0, nodes[k], 8, -1, -1);
        }
    }

    /** "A letter like letter k": with the letter itself lost, its twin, the last one, does the same. */
    private static void aTwinDoesWhatItsLetterDoes(Check check) {
        for (int k = 0; k < Play.BUSY_LETTERS; k++) {
            int at = k;
            Same.runs(check, "the twin of letter " + at, x -> {
                Play.busy(x);
                x.twin(at);
                x.lose(at);
                x.deliver(Play.BUSY_LETTERS - 1);
            }, x -> {
                Play.busy(x);
                x.deliver(at);
            });
        }
    }
}

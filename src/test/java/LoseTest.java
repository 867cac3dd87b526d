/** Promise 9. */
public final class LoseTest {
    public static void main(String[] args) {
        Check check = new Check();
        IssueHouse x = new IssueHouse();
        check.outOfBounds("lose(0)", () -> x.lose(0));
        x.start(0);
        check.outOfBounds("lose(-1)", () -> x.lose(-1));
        check.outOfBounds("lose(5)", () -> x.lose(5));
        x.lose(1);
        x.lose(3);
        check.due("letters()", x.letters(), 3);
        int[] nodes = {0, 2, 3};
        for (int k = 0; k < 3; k++) {
            check.due("letter(" + k + ", 2)", x.letter(k, 2), nodes[k]);
        }
        check.outOfBounds("lose(3)", () -> x.lose(3));
        check.due("issuer(0, 1)", x.issuer(0, 1), 1);
        fromAFullRow(check);
        nothingIsDelivered(check);
        noSuchLetter(check);
        theFirstTheLastAndTheOnly(check);
        isAsIfItHadNotBeenSent(check);
        check.end();
    }

    private static void fromAFullRow(Check check) {
        IssueHouse x = new IssueHouse();
        x.start(0);
        Play.fill(x, 1, 90);
        check.outOfBounds("lose(90)", () -> x.lose(90));
        x.lose(89);
        check.due("letters()", x.letters(), 89);
        x.lose(0);
        check.due("letter(0, 2)", x.letter(0, 2), 1);
        check.due("letter(87, 2)", x.letter(87, 2), 1);
        x.twin(1);
        check.due("letter(88, 2)", x.letter(88, 2), 2);
    }

    private static void nothingIsDelivered(Check check) {
        IssueHouse x = new IssueHouse();
        x.start(0);
        x.twin(0);
        x.lose(0);
        x.deliver(4);
        check.due("the answer to the only PREPARE that came", x.letter(4, 0), Play.PROMISE);
        x.deliver(0);
        x.deliver(0);
        x.lose(2);
        x.deliver(2);
        check.due("the second PROMISE that came", x.deliver(2), 0);
        check.due("issuer(0, 1)", x.issuer(0, 1), 1);
    }

    /** "IndexOutOfBoundsException likewise", without letters, with some and with 90. */
    private static void noSuchLetter(Check check) {
        for (int many : new int[] {0, 5, 90}) {
            IssueHouse x = new IssueHouse();
            if (many > 0) {
                x.start(0);
                Play.fill(x, 0, many);
            }
            for (int k : new int[] {Integer.MIN_VALUE, -1, many, many + 1, Integer.MAX_VALUE}) {
                check.outOfBounds("lose(" + k + ") with " + many, () -> x.lose(k));
            }
            check.due("letters()", x.letters(), many);
        }
    }

    /** "those behind one that is taken away move up". */
    private static void theFirstTheLastAndTheOnly(Check check) {
        int[][] left = {{1, 2, 3, 4}, {0, 2, 3, 4}, {0, 1, 3, 4}, {0, 1, 2, 4}, {0, 1, 2, 3}};
        for (int k = 0; k < 5; k++) {
            IssueHouse x = new IssueHouse();
            x.start(3);
            x.lose(k);
            check.due("letters() behind lose(" + k + ")", x.letters(), 4);
            for (int j = 0; j < 4; j++) {
                check.letter(x, j, Play.PREPARE, 3, left[k][j], 11, -1, -1);
            }
            check.outOfBounds("letter(4, 0)", () -> x.letter(4, 0));
        }
        IssueHouse y = new IssueHouse();
        y.start(0);
        Play.clearBut(y, 1);
        y.lose(0);
        check.due("letters()", y.letters(), 0);
        check.outOfBounds("lose(0) with none", () -> y.lose(0));
    }

    /** A letter that is lost is gone with all that it would have done. */
    private static void isAsIfItHadNotBeenSent(Check check) {
        for (int k = 0; k < Play.BUSY_LETTERS; k++) {
            int at = k;
            Same.answers(check, "a twin of letter " + at + " and its loss", 0, Play::busy, Same.call(x -> {
                x.twin(at);
                x.lose(Play.BUSY_LETTERS);
            }));
        }
    }
}

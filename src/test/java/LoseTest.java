/** Promise 9. */
public final class LoseTest {
    public static void main(String[] args) {
        Check check = new Check();
        IssueHouse x = new IssueHouse();
        check.outOfBounds("lose(0)", () -> x.lose(0));
        x.start(0);
        check.outOfBounds("lose(-1)", () -> x.lose(-1));
        check.outOfBounds("lose(5)", () -> x.lose(5));
        x.lose(1);
        x.lose(3);
        check.due("letters()", x.letters(), 3);
        int[] nodes = {0, 2, 3};
        for (int k = 0; k < 3; k++) {
            check.due("letter(" + k + ", 2)", x.letter(k, 2), nodes[k]);
        }
        check.outOfBounds("lose(3)", () -> x.lose(3));
        check.due("issuer(0, 1)", x.issuer(0, 1), 1);
        fromAFullRow(check);
        nothingIsDelivered(check);
        check.end();
    }

    private static void fromAFullRow(Check check) {
        IssueHouse x = new IssueHouse();
        x.start(0);
        Play.fill(x, 1, 90);
        check.outOfBounds("lose(90)", () -> x.lose(90));
        x.lose(89);
        check.due("letters()", x.letters(), 89);
        x.lose(0);
        check.due("letter(0, 2)", x.letter(0, 2), 1);
        check.due("letter(87, 2)", x.letter(87, 2), 1);
        x.twin(1);
        check.due("letter(88, 2)", x.letter(88, 2), 2);
    }

    private static void nothingIsDelivered(Check check) {
        IssueHouse x = new IssueHouse();
        x.start(0);
        x.twin(0);
        x.lose(0);
        x.deliver(4);
        check.due("the answer to the only PREPARE that came", x.letter(4, 0), Play.PROMISE);
        x.deliver(0);
        x.deliver(0);
        x.lose(2);
        x.deliver(2);
        check.due("the second PROMISE that came", x.deliver(2), 0);
        check.due("issuer(0, 1)", x.issuer(0, 1), 1);
    }
}

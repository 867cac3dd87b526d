/** Promise 1. */
public final class NewObjectTest {
    public static void main(String[] args) {
        Check check = new Check();
        IssueHouse x = new IssueHouse();
        check.due("NONE", IssueHouse.NONE, -1);
        check.due("letters()", x.letters(), 0);
        for (int i = 0; i < 8; i++) {
            long[] due = {0, 0, -1, -1, -1, -1, 0, 0};
            for (int what = 0; what < 8; what++) {
                check.due("issuer(" + i + ", " + what + ")", x.issuer(i, what), due[what]);
            }
            check.due("next(" + i + ")", x.next(i), 0);
        }
        for (int s = 0; s < 8; s++) {
            for (int what = 0; what < 3; what++) {
                check.due("seat(" + s + ", " + what + ")", x.seat(s, what), -1);
            }
        }
        nodesAreUpWithNothingPromised(check);
        objectsShareNothing(check);
        check.end();
    }

    private static void nodesAreUpWithNothingPromised(Check check) {
        IssueHouse x = new IssueHouse();
        x.start(0);
        for (int n = 0; n < 5; n++) {
            check.due("deliver(0) to node " + n, x.deliver(0), 1);
            check.due("the answer of node " + n, x.letter(4, 0), Play.PROMISE);
        }
    }

    private static void objectsShareNothing(Check check) {
        Play.readyAt(1000);
        IssueHouse y = new IssueHouse();
        check.due("issuer(0, 0) of another object", y.issuer(0, 0), 0);
        check.due("seat(0, 0) of another object", y.seat(0, 0), -1);
    }
}

/** Promise 1. */
public final class NewObjectTest {
    public static void main(String[] args) {
        Check check = new Check();
        IssueHouse x = new IssueHouse();
        check.due("NONE", IssueHouse.NONE, -1);
        check.due("letters()", x.letters(), 0);
        for (int i = 0; i < 8; i++) {
            long[] due = {0, 0, -1, -1, -1, -1, 0, 0};
            for (int what = 0; what < 8; what++) {
                check.due("issuer(" + i + ", " + what + ")", x.issuer(i, what), due[what]);
            }
            check.due("next(" + i + ")", x.next(i), 0);
        }
        for (int s = 0; s < 8; s++) {
            for (int what = 0; what < 3; what++) {
                check.due("seat(" + s + ", " + what + ")", x.seat(s, what), -1);
            }
        }
        nodesAreUpWithNothingPromised(check);
        objectsShareNothing(check);
        noLetters(check);
        nothingHasBegun(check);
        firstRows(check);
        answersUpToItsLastCall(check);
        check.end();
    }

    private static void nodesAreUpWithNothingPromised(Check check) {
        IssueHouse x = new IssueHouse();
        x.start(0);
        for (int n = 0; n < 5; n++) {
            check.due("deliver(0) to node " + n, x.deliver(0), 1);
            check.due("the answer of node " + n, x.letter(4, 0), Play.PROMISE);
        }
    }

    private static void objectsShareNothing(Check check) {
        Play.readyAt(1000);
        IssueHouse y = new IssueHouse();
        check.due("issuer(0, 0) of another object", y.issuer(0, 0), 0);
        check.due("seat(0, 0) of another object", y.seat(0, 0), -1);
    }

    /** "no letters": there is not even letter 0. */
    private static void noLetters(Check check) {
        IssueHouse x = new IssueHouse();
        check.outOfBounds("letter(0, 0)", () -> x.letter(0, 0));
        check.outOfBounds("deliver(0)", () -> x.deliver(0));
        check.outOfBounds("lose(0)", () -> x.lose(0));
        check.outOfBounds("twin(0)", () -> x.twin(0));
    }

    /** "No issuer has begun": none is ready, and each may start, the first ballot's a being 1. */
    private static void nothingHasBegun(Check check) {
        for (int i = 0; i < 8; i++) {
            int at = i;
            IssueHouse x = new IssueHouse();
            check.badState("prolong(" + at + ")", () -> x.prolong(at));
            check.due("batch(" + at + ", 1)", x.batch(at, 1), 0);
            x.start(at);
            check.due("ballot", x.letter(0, 3), 8 + at);
        }
    }

    /** "a ballot (0), a holder (an issuer or none), a term (0), a mark (0)", a clock "0 at first". */
    private static void firstRows(Check check) {
        for (int i = 0; i < 8; i++) {
            IssueHouse x = new IssueHouse();
            Play.start(x, i);
            check.issuer(x, i, 1, 0, 0, 1, 60000, -1, 0, 0);
            check.due("next(" + i + ")", x.next(i), Play.number(1, 0, 0));
        }
    }

    /** "An object is used for at most 512 calls": the 512th is answered as all before it. */
    private static void answersUpToItsLastCall(Check check) {
        IssueHouse x = new IssueHouse();
        for (int attempt = 1; attempt <= 72; attempt++) {
            x.start(0);
            x.crash(0);
            for (int n = 0; n < 5; n++) {
                x.lose(0);
            }
        }
        for (int call = 505; call <= 510; call++) {
            check.due("letters() as call " + call, x.letters(), 0);
        }
        x.start(0);
        check.due("letter(0, 3) as the 512th call", x.letter(0, 3), 8 * 73);
    }
}

/** Promise 8. What the letters do where they come is in AtNodeTest and AtIssuerTest. */
public final class DeliverTest {
    public static void main(String[] args) {
        Check check = new Check();
        wrongInputs(check);
        takesTheLetterAway(check);
        acceptNeedsRoom(check);
        refusedPromiseIsNotCounted(check);
        failureNeedsNoRoom(check);
        anyLetterOfAFullRow(check);
        theOnlyLetter(check);
        roomWhileProlonging(check);
        roomIsAskedForByAcceptAlone(check);
        theRefusedLetterComesLater(check);
        noSeatNeedsNoRoom(check);
        check.end();
    }

    private static void wrongInputs(Check check) {
        IssueHouse x = new IssueHouse();
        check.outOfBounds("deliver(0)", () -> x.deliver(0));
        x.start(0);
        check.outOfBounds("deliver(-1)", () -> x.deliver(-1));
        check.outOfBounds("deliver(5)", () -> x.deliver(5));
        check.outOfBounds("deliver(90)", () -> x.deliver(90));
        check.outOfBounds("deliver(greatest)", () -> x.deliver(Integer.MAX_VALUE));
        Play.fill(x, 0, 90);
        check.outOfBounds("deliver(90) with 90", () -> x.deliver(90));
        check.due("deliver(89) with 90", x.deliver(89), 1);
    }

    private static void takesTheLetterAway(Check check) {
        IssueHouse x = new IssueHouse();
        x.start(0);
        check.due("deliver(2)", x.deliver(2), 1);
        int[] nodes = {0, 1, 3, 4, 2};
        for (int k = 0; k < 5; k++) {
            check.due("letter(" + k + ", 2)", x.letter(k, 2), nodes[k]);
        }
        check.due("letter(4, 0)", x.letter(4, 0), Play.PROMISE);
    }

    /** Two PREPARE, three PROMISE, of which two are delivered, and others up to so many letters. */
    private static IssueHouse beforeTheThird(int letters) {
        IssueHouse x = new IssueHouse();
        x.start(0);
        x.deliver(0);
        x.deliver(0);
        x.deliver(0);
        x.deliver(2);
        x.deliver(2);
        Play.fill(x, 0, letters);
        return x;
    }

    private static void acceptNeedsRoom(Check check) {
        for (int letters = 87; letters <= 90; letters++) {
            IssueHouse x = beforeTheThird(letters);
            check.badState("deliver(2) with " + letters, () -> x.deliver(2));
            check.due("letters()", x.letters(), letters);
            check.due("letter(2, 0)", x.letter(2, 0), Play.PROMISE);
            check.due("issuer(0, 1)", x.issuer(0, 1), 1);
            check.due("issuer(0, 6)", x.issuer(0, 6), 0);
        }
        IssueHouse y = beforeTheThird(86);
        check.due("deliver(2) with 86", y.deliver(2), 5);
        check.due("letters()", y.letters(), 90);
        check.due("letter(85, 0)", y.letter(85, 0), Play.ACCEPT);
        check.due("letter(89, 2)", y.letter(89, 2), 4);
    }

    private static void refusedPromiseIsNotCounted(Check check) {
        IssueHouse x = new IssueHouse();
        x.clock(0, 9000);
        Play.startInVain(x, 0, 2, 3, 4, 2);
        x.clock(0, 0);
        x.start(0);
        x.deliver(0);
        x.deliver(0);
        x.deliver(0);
        x.deliver(0);
        x.deliver(1);
        x.deliver(1);
        check.due("node", x.letter(1, 2), 2);
        Play.fill(x, 0, 90);
        check.badState("deliver(1) with 90", () -> x.deliver(1));
        check.badState("deliver(1) with 90 again", () -> x.deliver(1));
        x.lose(1);
        while (x.letters() > 50) {
            x.lose(50);
        }
        check.due("node", x.letter(1, 2), 3);
        check.due("deliver(1), a third without node 2", x.deliver(1), 5);
        Play.clearBut(x, 5);
        for (int n = 0; n < 3; n++) {
            x.deliver(0);
        }
        for (int n = 0; n < 3; n++) {
            x.deliver(2);
        }
        check.due("term", x.issuer(0, 3), 1);
        check.due("span, not behind the row of node 2", x.issuer(0, 4), 60000);
    }

    private static void failureNeedsNoRoom(Check check) {
        IssueHouse x = beforeTheThird(90);
        x.clock(0, Play.LATEST);
        check.due("deliver(2) of a PROMISE that leads to failure", x.deliver(2), 0);
        check.due("letters()", x.letters(), 89);
        check.due("issuer(0, 6)", x.issuer(0, 6), 1);
        IssueHouse y = beforeTheThird(90);
        check.due("deliver(0) of PREPARE with 90", y.deliver(0), 1);
        check.due("letters()", y.letters(), 90);
    }

    /** "IndexOutOfBoundsException, when there is none such": of 90 letters the first and the last are there. */
    private static void anyLetterOfAFullRow(Check check) {
        IssueHouse x = new IssueHouse();
        check.outOfBounds("deliver(-1) without letters", () -> x.deliver(-1));
        check.outOfBounds("deliver(least) without letters", () -> x.deliver(Integer.MIN_VALUE));
        x.start(0);
        Play.fill(x, 4, 90);
        check.outOfBounds("deliver(-1) with 90", () -> x.deliver(-1));
        check.outOfBounds("deliver(90) with 90", () -> x.deliver(90));
        check.outOfBounds("deliver(91) with 90", () -> x.deliver(91));
        check.due("deliver(0) with 90", x.deliver(0), 1);
        check.due("letters()", x.letters(), 90);
        check.letter(x, 89, Play.PROMISE, 0, 0, 8, -1, -1);
        check.due("deliver(89) with 90", x.deliver(89), 0);
        check.due("letters()", x.letters(), 89);
        check.outOfBounds("deliver(89) with 89", () -> x.deliver(89));
    }

    private static void theOnlyLetter(Check check) {
        IssueHouse x = new IssueHouse();
        x.start(0);
        Play.clearBut(x, 1);
        check.outOfBounds("deliver(1) with one", () -> x.deliver(1));
        check.due("deliver(0) of PREPARE", x.deliver(0), 1);
        check.due("deliver(0) of PROMISE", x.deliver(0), 0);
        check.due("letters()", x.letters(), 0);
        check.outOfBounds("deliver(0) with none", () -> x.deliver(0));
    }

    /** "when ACCEPT would be sent by it and more than 90 letters were there then", of one that prolongs. */
    private static void roomWhileProlonging(Check check) {
        for (int letters = 85; letters <= 90; letters++) {
            IssueHouse x = new IssueHouse();
            Play.prolonging(x);
            Play.fill(x, 0, letters);
            if (letters <= 86) {
                check.due("deliver(2) with " + letters, x.deliver(2), 5);
                check.due("letters()", x.letters(), letters + 4);
                check.due("issuer(0, 1)", x.issuer(0, 1), 2);
                continue;
            }
            check.badState("deliver(2) with " + letters, () -> x.deliver(2));
            check.due("letters()", x.letters(), letters);
            check.letter(x, 2, Play.PROMISE, 0, 2, 16, -1, -1);
            check.issuer(x, 0, 1, 1, 0, 1, 60999, 1000, 0, 10);
        }
    }

    /** Every other letter is delivered with 90 letters too: what it sends takes its own place at most. */
    private static void roomIsAskedForByAcceptAlone(Check check) {
        int[] sent = {1, 0, 0, 1, 0, -1, 0, 0};
        for (int k = 0; k < Play.BUSY_LETTERS; k++) {
            if (k == Play.BUSY_THIRD_PROMISE) {
                continue;
            }
            IssueHouse x = new IssueHouse();
            Play.crowded(x, 90);
            check.due("deliver(" + k + ") with 90", x.deliver(k), sent[k]);
            check.due("letters()", x.letters(), 89 + sent[k]);
        }
        IssueHouse y = new IssueHouse();
        y.start(0);
        y.deliver(0);
        y.deliver(0);
        Play.fill(y, 0, 90);
        check.due("deliver(3) of the first PROMISE with 90", y.deliver(3), 0);
        y.twin(0);
        check.due("deliver(3) of the second PROMISE with 90", y.deliver(3), 0);
        check.due("issuer(0, 1)", y.issuer(0, 1), 1);
    }

    /** "(the letter stays)": it is delivered as soon as there is room. */
    private static void theRefusedLetterComesLater(Check check) {
        IssueHouse x = beforeTheThird(90);
        for (int letters = 90; letters > 86; letters--) {
            check.badState("deliver(2) with " + letters, () -> x.deliver(2));
            x.lose(letters - 1);
        }
        check.due("deliver(2) with 86", x.deliver(2), 5);
        check.due("letters()", x.letters(), 90);
        check.issuer(x, 0, 0, 2);
        for (int n = 0; n < 5; n++) {
            check.letter(x, 85 + n, Play.ACCEPT, 0, n, 8, 0, -1);
        }
    }

    /** "Without a seat ... the attempt FAILS": no ACCEPT would be sent, so none is refused. */
    private static void noSeatNeedsNoRoom(Check check) {
        IssueHouse x = new IssueHouse();
        Play.withoutASeatFor7(x);
        Play.fill(x, 0, 90);
        check.due("deliver(2) of the third PROMISE", x.deliver(2), 0);
        check.due("letters()", x.letters(), 89);
        check.issuer(x, 7, 0, 0, -1, -1, -1, -1, 1, 0);
    }
}

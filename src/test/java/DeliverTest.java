/** Promise 8, with what nodes and issuers do with each letter. */
public final class DeliverTest {
    public static void main(String[] args) {
        Check check = new Check();
        wrongInputs(check);
        takesTheLetterAway(check);
        nodeAnswersPrepare(check);
        nodeAnswersAccept(check);
        acceptedWithoutPrepare(check);
        promisesAreCountedOncePerNode(check);
        promisesOfAnotherBallotAreLost(check);
        promiseTellsRowsAsTheyWere(check);
        greatestBallotOfTheThreeCounts(check);
        thirdPromiseTellsOfAHolder(check);
        earlierPromisesAreForgotten(check);
        earlierCountsAreForgotten(check);
        yesIsCountedOncePerNode(check);
        yesBeforeAcceptingIsLost(check);
        noFailsWhatever(check);
        noWithoutAttemptIsLost(check);
        noBehindTheEndIsLost(check);
        acceptNeedsRoom(check);
        refusedPromiseIsNotCounted(check);
        failureNeedsNoRoom(check);
        check.end();
    }

    private static void wrongInputs(Check check) {
        IssueHouse x = new IssueHouse();
        check.outOfBounds("deliver(0)", () -> x.deliver(0));
        x.start(0);
        check.outOfBounds("deliver(-1)", () -> x.deliver(-1));
        check.outOfBounds("deliver(5)", () -> x.deliver(5));
        check.outOfBounds("deliver(90)", () -> x.deliver(90));
        check.outOfBounds("deliver(greatest)", () -> x.deliver(Integer.MAX_VALUE));
        Play.fill(x, 0, 90);
        check.outOfBounds("deliver(90) with 90", () -> x.deliver(90));
        check.due("deliver(89) with 90", x.deliver(89), 1);
    }

    private static void takesTheLetterAway(Check check) {
        IssueHouse x = new IssueHouse();
        x.start(0);
        check.due("deliver(2)", x.deliver(2), 1);
        int[] nodes = {0, 1, 3, 4, 2};
        for (int k = 0; k < 5; k++) {
            check.due("letter(" + k + ", 2)", x.letter(k, 2), nodes[k]);
        }
        check.due("letter(4, 0)", x.letter(4, 0), Play.PROMISE);
    }

    private static void nodeAnswersPrepare(Check check) {
        IssueHouse x = new IssueHouse();
        x.start(3);
        x.start(2);
        x.start(4);
        x.deliver(0);
        letterIs(check, x, 14, Play.PROMISE, 3, 0, 11, -1);
        x.deliver(4);
        letterIs(check, x, 14, Play.NO, 2, 0, 10, 11);
        x.twin(8);
        check.due("letter(15, 1)", x.letter(15, 1), 4);
        x.deliver(8);
        letterIs(check, x, 15, Play.PROMISE, 4, 0, 12, -1);
        x.deliver(14);
        letterIs(check, x, 15, Play.NO, 4, 0, 12, 12);
    }

    private static void letterIs(Check check, IssueHouse x, int k, int kind, int issuer, int node, int ballot,
            int promised) {
        int[] due = {kind, issuer, node, ballot, -1, promised};
        for (int what = 0; what < 6; what++) {
            check.due("letter(" + k + ", " + what + ")", x.letter(k, what), due[what]);
        }
    }

    private static void nodeAnswersAccept(Check check) {
        IssueHouse x = new IssueHouse();
        x.start(0);
        Play.promises(x, 0, 1, 2);
        check.due("letters()", x.letters(), 7);
        x.start(1);
        x.deliver(7);
        x.deliver(2);
        check.due("answer to ACCEPT below the promised number", x.letter(11, 0), Play.NO);
        check.due("its ballot", x.letter(11, 3), 8);
        check.due("its promised number", x.letter(11, 5), 9);
        check.due("seat(0, 0), nothing being accepted", x.seat(0, 0), -1);
        check.due("deliver of ACCEPT to node 1", x.deliver(2), 1);
        check.due("answer to ACCEPT with the promised number", x.letter(11, 0), Play.YES);
        check.due("its node", x.letter(11, 2), 1);
        check.due("seat(0, 0)", x.seat(0, 0), 0);
        check.due("seat(0, 1)", x.seat(0, 1), 1);
        check.due("seat(0, 2)", x.seat(0, 2), 60000);
    }

    private static void acceptedWithoutPrepare(Check check) {
        IssueHouse x = new IssueHouse();
        x.start(1);
        Play.promises(x, 0, 1, 2);
        check.due("deliver of ACCEPT to node 4", x.deliver(6), 1);
        letterIs(check, x, 6, Play.YES, 1, 4, 9, -1);
        check.due("deliver of the late PREPARE to node 4", x.deliver(1), 1);
        letterIs(check, x, 6, Play.NO, 1, 4, 9, 9);
        x.start(0);
        check.due("deliver of a lower PREPARE to node 4", x.deliver(11), 1);
        letterIs(check, x, 11, Play.NO, 0, 4, 8, 9);
    }

    private static void promisesAreCountedOncePerNode(Check check) {
        IssueHouse x = new IssueHouse();
        x.start(0);
        x.deliver(0);
        x.deliver(0);
        x.deliver(0);
        x.twin(2);
        x.twin(2);
        x.twin(3);
        check.due("node 0", x.deliver(2), 0);
        check.due("node 0 again", x.deliver(4), 0);
        check.due("node 0 once more", x.deliver(4), 0);
        check.due("node 1", x.deliver(2), 0);
        check.due("node 1 again", x.deliver(3), 0);
        check.due("issuer(0, 1)", x.issuer(0, 1), 1);
        check.due("node 2", x.deliver(2), 5);
        check.due("issuer(0, 1)", x.issuer(0, 1), 2);
        for (int n = 0; n < 5; n++) {
            check.due("kind", x.letter(2 + n, 0), Play.ACCEPT);
            check.due("issuer", x.letter(2 + n, 1), 0);
            check.due("node", x.letter(2 + n, 2), n);
            check.due("ballot", x.letter(2 + n, 3), 8);
            check.due("seat", x.letter(2 + n, 4), 0);
            check.due("promised", x.letter(2 + n, 5), -1);
        }
        x.deliver(0);
        check.due("a fourth PROMISE", x.deliver(6), 0);
    }

    private static void promisesOfAnotherBallotAreLost(Check check) {
        IssueHouse x = new IssueHouse();
        x.start(0);
        for (int n = 0; n < 5; n++) {
            x.deliver(0);
        }
        x.crash(0);
        check.due("PROMISE to one at no attempt", x.deliver(0), 0);
        x.start(0);
        for (int n = 0; n < 4; n++) {
            check.due("PROMISE with an old ballot", x.deliver(0), 0);
        }
        check.due("issuer(0, 1)", x.issuer(0, 1), 1);
        check.due("letters()", x.letters(), 5);
    }

    private static void promiseTellsRowsAsTheyWere(Check check) {
        IssueHouse x = new IssueHouse();
        x.start(1);
        for (int n = 0; n < 5; n++) {
            x.deliver(0);
        }
        x.start(2);
        for (int n = 0; n < 5; n++) {
            x.deliver(5);
        }
        for (int n = 0; n < 3; n++) {
            x.deliver(5);
        }
        for (int n = 0; n < 5; n++) {
            x.deliver(7);
        }
        check.due("seat(0, 0)", x.seat(0, 0), 2);
        x.twin(0);
        x.deliver(x.letters() - 1);
        x.deliver(1);
        check.due("the late third PROMISE", x.deliver(1), 5);
        check.due("the seat that was free then", x.letter(x.letters() - 1, 4), 0);
        x.deliver(x.letters() - 1);
        check.due("answer to its ACCEPT", x.letter(x.letters() - 1, 0), Play.NO);
        check.due("seat(0, 0)", x.seat(0, 0), 2);
    }

    private static void greatestBallotOfTheThreeCounts(Check check) {
        IssueHouse x = new IssueHouse();
        x.clock(0, 5000);
        Play.startInVain(x, 0, 0, 1, 2, 0);
        x.clock(0, 1000);
        Play.startInVain(x, 0, 1, 2, 3, 1);
        x.clock(0, 0);
        Play.startWith(x, 0, 0, 1, 4);
        check.due("term behind the row with ballot 16", x.issuer(0, 3), 2);
        check.due("span behind the row with ballot 16", x.issuer(0, 4), 120999);
        IssueHouse y = new IssueHouse();
        y.clock(0, 5000);
        Play.startInVain(y, 0, 0, 1, 2, 0);
        y.clock(0, 1000);
        Play.startInVain(y, 0, 1, 2, 3, 4);
        y.clock(0, 0);
        Play.startWith(y, 0, 0, 1, 4);
        check.due("span when the third PROMISE has the greatest", y.issuer(0, 4), 120999);
    }

    private static void thirdPromiseTellsOfAHolder(Check check) {
        IssueHouse x = new IssueHouse();
        Play.startInVain(x, 0, 0, 1, 2, 4);
        Play.startWith(x, 1, 0, 1, 4);
        check.due("seat, seat 0 being held at node 4", x.issuer(1, 2), 1);
    }

    private static void earlierCountsAreForgotten(Check check) {
        IssueHouse x = new IssueHouse();
        x.start(0);
        x.deliver(0);
        x.deliver(0);
        x.deliver(3);
        x.deliver(3);
        x.crash(0);
        Play.clear(x);
        x.start(0);
        x.deliver(2);
        check.due("the first PROMISE of a new attempt", x.deliver(4), 0);
        check.due("issuer(0, 1)", x.issuer(0, 1), 1);
    }

    private static void earlierPromisesAreForgotten(Check check) {
        IssueHouse x = new IssueHouse();
        x.clock(0, 9000);
        Play.startInVain(x, 0, 0, 1, 2, 0);
        x.start(0);
        x.deliver(0);
        x.deliver(4);
        x.crash(0);
        Play.clear(x);
        x.clock(0, 0);
        Play.startWith(x, 0, 1, 2, 3);
        check.due("term, node 0 not being heard", x.issuer(0, 3), 1);
        check.due("span, node 0 not being heard", x.issuer(0, 4), 60000);
    }

    private static void yesIsCountedOncePerNode(Check check) {
        IssueHouse x = new IssueHouse();
        x.clock(0, 50);
        x.start(0);
        Play.promises(x, 0, 1, 2);
        Play.accept(x, 0, 3, 4);
        x.twin(4);
        x.twin(4);
        check.due("node 0", x.deliver(4), 0);
        check.due("node 0 again", x.deliver(6), 0);
        check.due("node 0 once more", x.deliver(6), 0);
        check.due("node 3", x.deliver(4), 0);
        check.due("issuer(0, 0)", x.issuer(0, 0), 0);
        check.due("issuer(0, 1)", x.issuer(0, 1), 2);
        check.due("node 4", x.deliver(4), 0);
        check.due("issuer(0, 0)", x.issuer(0, 0), 1);
        check.due("issuer(0, 1)", x.issuer(0, 1), 0);
        check.due("issuer(0, 2)", x.issuer(0, 2), 0);
        check.due("issuer(0, 3)", x.issuer(0, 3), 1);
        check.due("issuer(0, 4)", x.issuer(0, 4), 60049);
    }

    private static void yesBeforeAcceptingIsLost(Check check) {
        IssueHouse x = new IssueHouse();
        x.start(0);
        Play.promises(x, 0, 1, 2);
        Play.accept(x, 0, 1, 2);
        x.crash(0);
        x.start(0);
        for (int n = 0; n < 3; n++) {
            check.due("YES with an old ballot", x.deliver(4), 0);
        }
        check.due("issuer(0, 0)", x.issuer(0, 0), 0);
        check.due("issuer(0, 1)", x.issuer(0, 1), 1);
    }

    private static void noFailsWhatever(Check check) {
        IssueHouse x = new IssueHouse();
        x.start(0);
        x.twin(0);
        x.deliver(0);
        x.deliver(4);
        check.due("deliver of NO while preparing", x.deliver(5), 0);
        check.due("issuer(0, 1)", x.issuer(0, 1), 0);
        check.due("issuer(0, 6)", x.issuer(0, 6), 1);
        Play.clear(x);
        x.start(0);
        check.due("ballot behind NO with its own number", x.letter(0, 3), 16);
        noFailsWhileAccepting(check);
    }

    private static void noFailsWhileAccepting(Check check) {
        IssueHouse x = new IssueHouse();
        x.start(0);
        Play.promises(x, 0, 1, 2);
        x.twin(0);
        x.deliver(0);
        x.deliver(6);
        check.due("letter(7, 0)", x.letter(7, 0), Play.NO);
        check.due("issuer(0, 1)", x.issuer(0, 1), 2);
        check.due("deliver of NO while accepting", x.deliver(7), 0);
        check.due("issuer(0, 1)", x.issuer(0, 1), 0);
        check.due("issuer(0, 6)", x.issuer(0, 6), 1);
        for (int n = 0; n < 3; n++) {
            x.deliver(1);
        }
        for (int n = 0; n < 3; n++) {
            check.due("late YES", x.letter(x.letters() - 1, 0), Play.YES);
            x.deliver(x.letters() - 1);
        }
        check.due("issuer(0, 0)", x.issuer(0, 0), 0);
    }

    private static void noBehindTheEndIsLost(Check check) {
        IssueHouse x = new IssueHouse();
        x.start(0);
        x.twin(0);
        x.deliver(0);
        x.deliver(4);
        x.deliver(0);
        x.deliver(0);
        x.deliver(2);
        x.deliver(3);
        x.deliver(3);
        for (int n = 0; n < 3; n++) {
            x.deliver(3);
        }
        for (int n = 0; n < 3; n++) {
            x.deliver(5);
        }
        check.due("issuer(0, 0)", x.issuer(0, 0), 1);
        check.due("letter(2, 0)", x.letter(2, 0), Play.NO);
        check.due("deliver of NO", x.deliver(2), 0);
        check.due("issuer(0, 0)", x.issuer(0, 0), 1);
        check.due("issuer(0, 6)", x.issuer(0, 6), 0);
    }

    private static void noWithoutAttemptIsLost(Check check) {
        IssueHouse x = new IssueHouse();
        x.start(0);
        x.twin(0);
        x.twin(0);
        x.deliver(0);
        x.deliver(4);
        x.deliver(4);
        check.due("letter(5, 0)", x.letter(5, 0), Play.NO);
        check.due("letter(6, 0)", x.letter(6, 0), Play.NO);
        x.deliver(5);
        check.due("deliver of the second NO", x.deliver(5), 0);
        check.due("issuer(0, 6)", x.issuer(0, 6), 1);
        Play.clear(x);
        x.start(0);
        x.twin(0);
        x.deliver(0);
        x.deliver(4);
        check.due("letter(5, 0)", x.letter(5, 0), Play.NO);
        x.crash(0);
        x.start(0);
        check.due("deliver of NO with an old ballot", x.deliver(5), 0);
        check.due("issuer(0, 1)", x.issuer(0, 1), 1);
        check.due("issuer(0, 6)", x.issuer(0, 6), 1);
    }

    /** Two PREPARE, three PROMISE, of which two are delivered, and others up to so many letters. */
    private static IssueHouse beforeTheThird(int letters) {
        IssueHouse x = new IssueHouse();
        x.start(0);
        x.deliver(0);
        x.deliver(0);
        x.deliver(0);
        x.deliver(2);
        x.deliver(2);
        Play.fill(x, 0, letters);
        return x;
    }

    private static void acceptNeedsRoom(Check check) {
        for (int letters = 87; letters <= 90; letters++) {
            IssueHouse x = beforeTheThird(letters);
            check.badState("deliver(2) with " + letters, () -> x.deliver(2));
            check.due("letters()", x.letters(), letters);
            check.due("letter(2, 0)", x.letter(2, 0), Play.PROMISE);
            check.due("issuer(0, 1)", x.issuer(0, 1), 1);
            check.due("issuer(0, 6)", x.issuer(0, 6), 0);
        }
        IssueHouse y = beforeTheThird(86);
        check.due("deliver(2) with 86", y.deliver(2), 5);
        check.due("letters()", y.letters(), 90);
        check.due("letter(85, 0)", y.letter(85, 0), Play.ACCEPT);
        check.due("letter(89, 2)", y.letter(89, 2), 4);
    }

    private static void refusedPromiseIsNotCounted(Check check) {
        IssueHouse x = new IssueHouse();
        x.clock(0, 9000);
        Play.startInVain(x, 0, 2, 3, 4, 2);
        x.clock(0, 0);
        x.start(0);
        x.deliver(0);
        x.deliver(0);
        x.deliver(0);
        x.deliver(0);
        x.deliver(1);
        x.deliver(1);
        check.due("node", x.letter(1, 2), 2);
        Play.fill(x, 0, 90);
        check.badState("deliver(1) with 90", () -> x.deliver(1));
        check.badState("deliver(1) with 90 again", () -> x.deliver(1));
        x.lose(1);
        while (x.letters() > 50) {
            x.lose(50);
        }
        check.due("node", x.letter(1, 2), 3);
        check.due("deliver(1), a third without node 2", x.deliver(1), 5);
        Play.clearBut(x, 5);
        for (int n = 0; n < 3; n++) {
            x.deliver(0);
        }
        for (int n = 0; n < 3; n++) {
            x.deliver(2);
        }
        check.due("term", x.issuer(0, 3), 1);
        check.due("span, not behind the row of node 2", x.issuer(0, 4), 60000);
    }

    private static void failureNeedsNoRoom(Check check) {
        IssueHouse x = beforeTheThird(90);
        x.clock(0, Play.LATEST);
        check.due("deliver(2) of a PROMISE that leads to failure", x.deliver(2), 0);
        check.due("letters()", x.letters(), 89);
        check.due("issuer(0, 6)", x.issuer(0, 6), 1);
        IssueHouse y = beforeTheThird(90);
        check.due("deliver(0) of PREPARE with 90", y.deliver(0), 1);
        check.due("letters()", y.letters(), 90);
    }
}

/** What a node does with PREPARE and ACCEPT. */
public final class AtNodeTest {
    public static void main(String[] args) {
        Check check = new Check();
        nodeAnswersPrepare(check);
        nodeAnswersAccept(check);
        acceptedWithoutPrepare(check);
        prepareBesideThePromisedNumber(check);
        acceptBesideThePromisedNumber(check);
        aDoubledAcceptIsAcceptedAgain(check);
        whatIsRefusedChangesNoRow(check);
        theFirstAndTheLastNodeAnswer(check);
        theFirstAndTheLastRow(check);
        check.end();
    }

    private static void nodeAnswersPrepare(Check check) {
        IssueHouse x = new IssueHouse();
        x.start(3);
        x.start(2);
        x.start(4);
        x.deliver(0);
        check.letter(x, 14, Play.PROMISE, 3, 0, 11, -1, -1);
        x.deliver(4);
        check.letter(x, 14, Play.NO, 2, 0, 10, -1, 11);
        x.twin(8);
        check.due("letter(15, 1)", x.letter(15, 1), 4);
        x.deliver(8);
        check.letter(x, 15, Play.PROMISE, 4, 0, 12, -1, -1);
        x.deliver(14);
        check.letter(x, 15, Play.NO, 4, 0, 12, -1, 12);
    }

    private static void nodeAnswersAccept(Check check) {
        IssueHouse x = new IssueHouse();
        x.start(0);
        Play.promises(x, 0, 1, 2);
        check.due("letters()", x.letters(), 7);
        x.start(1);
        x.deliver(7);
        x.deliver(2);
        check.due("answer to ACCEPT below the promised number", x.letter(11, 0), Play.NO);
        check.due("its ballot", x.letter(11, 3), 8);
        check.due("its promised number", x.letter(11, 5), 9);
        check.due("seat(0, 0), nothing being accepted", x.seat(0, 0), -1);
        check.due("deliver of ACCEPT to node 1", x.deliver(2), 1);
        check.due("answer to ACCEPT with the promised number", x.letter(11, 0), Play.YES);
        check.due("its node", x.letter(11, 2), 1);
        check.due("seat(0, 0)", x.seat(0, 0), 0);
        check.due("seat(0, 1)", x.seat(0, 1), 1);
        check.due("seat(0, 2)", x.seat(0, 2), 60000);
    }

    private static void acceptedWithoutPrepare(Check check) {
        IssueHouse x = new IssueHouse();
        x.start(1);
        Play.promises(x, 0, 1, 2);
        check.due("deliver of ACCEPT to node 4", x.deliver(6), 1);
        check.letter(x, 6, Play.YES, 1, 4, 9, -1, -1);
        check.due("deliver of the late PREPARE to node 4", x.deliver(1), 1);
        check.letter(x, 6, Play.NO, 1, 4, 9, -1, 9);
        x.start(0);
        check.due("deliver of a lower PREPARE to node 4", x.deliver(11), 1);
        check.letter(x, 11, Play.NO, 0, 4, 8, -1, 9);
    }

    /** Node 0 has promised ballot 11, and nothing lies there. */
    private static IssueHouse withElevenPromised() {
        IssueHouse x = new IssueHouse();
        x.start(3);
        x.deliver(0);
        Play.clear(x);
        return x;
    }

    /** PREPARE "with a ballot above its promised number": one below, the same, one above. */
    private static void prepareBesideThePromisedNumber(Check check) {
        IssueHouse below = withElevenPromised();
        below.start(2);
        below.deliver(0);
        check.letter(below, 4, Play.NO, 2, 0, 10, -1, 11);
        IssueHouse above = withElevenPromised();
        above.start(4);
        above.deliver(0);
        check.letter(above, 4, Play.PROMISE, 4, 0, 12, -1, -1);
        IssueHouse same = new IssueHouse();
        same.start(3);
        same.twin(0);
        same.deliver(0);
        same.deliver(4);
        check.letter(same, 5, Play.NO, 3, 0, 11, -1, 11);
        promisesWhatItPromised(check, below, 11);
        promisesWhatItPromised(check, above, 12);
        promisesWhatItPromised(check, same, 11);
    }

    /** The lowest ballot that there is makes node 0 tell its promised number. */
    private static void promisesWhatItPromised(Check check, IssueHouse x, int promised) {
        Play.clear(x);
        x.start(0);
        x.deliver(0);
        check.letter(x, 4, Play.NO, 0, 0, 8, -1, promised);
    }

    /** Issuer 3 is accepting with ballot 11, its ACCEPT to node 0 is the only letter. */
    private static IssueHouse withAcceptOfEleven() {
        IssueHouse x = new IssueHouse();
        x.start(3);
        Play.promises(x, 1, 2, 3);
        x.lose(0);
        x.lose(0);
        for (int n = 0; n < 4; n++) {
            x.lose(1);
        }
        return x;
    }

    /** ACCEPT "with a ballot not below its promised number": one above it, the same, one below. */
    private static void acceptBesideThePromisedNumber(Check check) {
        int[] others = {2, 4};
        int[] answers = {Play.YES, Play.NO};
        for (int j = 0; j < 2; j++) {
            IssueHouse x = withAcceptOfEleven();
            x.start(others[j]);
            x.deliver(1);
            Play.clearToFirst(x);
            check.due("letter(0, 0)", x.letter(0, 0), Play.ACCEPT);
            check.due("deliver(0)", x.deliver(0), 1);
            check.letter(x, 0, answers[j], 3, 0, 11, -1, j == 0 ? -1 : 12);
            check.due("seat(0, 0), node 0 having promised " + (8 + others[j]), x.seat(0, 0), j == 0 ? 3 : -1);
            promisesWhatItPromised(check, x, j == 0 ? 11 : 12);
        }
        IssueHouse same = new IssueHouse();
        same.start(3);
        Play.promises(same, 0, 1, 2);
        check.due("deliver(2) of ACCEPT", same.deliver(2), 1);
        check.letter(same, 6, Play.YES, 3, 0, 11, -1, -1);
        check.due("seat(0, 0)", same.seat(0, 0), 3);
        IssueHouse none = withAcceptOfEleven();
        none.deliver(0);
        check.letter(none, 0, Play.YES, 3, 0, 11, -1, -1);
        promisesWhatItPromised(check, none, 11);
    }

    /** The second one's ballot is the promised number then, which is not below it. */
    private static void aDoubledAcceptIsAcceptedAgain(Check check) {
        IssueHouse x = withAcceptOfEleven();
        x.twin(0);
        x.deliver(0);
        x.deliver(0);
        check.letter(x, 0, Play.YES, 3, 0, 11, -1, -1);
        check.letter(x, 1, Play.YES, 3, 0, 11, -1, -1);
        check.due("seat(0, 1), the term not being counted twice", x.seat(0, 1), 1);
        check.due("seat(0, 2)", x.seat(0, 2), 60000);
    }

    /** An ACCEPT that is late by one ballot does not take the seat from the one that came before it. */
    private static void whatIsRefusedChangesNoRow(Check check) {
        IssueHouse x = withAcceptOfEleven();
        x.clock(4, 7000);
        x.start(4);
        for (int n = 0; n < 5; n++) {
            x.deliver(1);
        }
        for (int n = 0; n < 3; n++) {
            x.deliver(1);
        }
        x.deliver(3);
        check.due("seat(0, 0)", x.seat(0, 0), 4);
        for (int n = 1; n < 5; n++) {
            x.node(n, n < 3);
        }
        check.due("deliver(0) of the late ACCEPT", x.deliver(0), 1);
        check.due("its answer", x.letter(x.letters() - 1, 0), Play.NO);
        check.seat(x, 0, 4, 1, 66999);
    }

    /** "To send to all nodes is to send one letter to each, node 0 first", and each of them answers. */
    private static void theFirstAndTheLastNodeAnswer(Check check) {
        IssueHouse x = new IssueHouse();
        x.start(5);
        for (int n = 0; n < 5; n++) {
            check.letter(x, n, Play.PREPARE, 5, n, 13, -1, -1);
        }
        for (int n = 0; n < 5; n++) {
            x.deliver(0);
            check.letter(x, 4, Play.PROMISE, 5, n, 13, -1, -1);
        }
        for (int n = 0; n < 3; n++) {
            x.deliver(0);
        }
        for (int n = 0; n < 5; n++) {
            check.letter(x, 2 + n, Play.ACCEPT, 5, n, 13, 0, -1);
        }
        x.deliver(0);
        x.deliver(0);
        for (int n = 0; n < 5; n++) {
            x.deliver(0);
            check.letter(x, 4, Play.YES, 5, n, 13, -1, -1);
        }
    }

    /** PROMISE comes "with all its rows": the first seat's and the last seat's are told. */
    private static void theFirstAndTheLastRow(Check check) {
        IssueHouse x = new IssueHouse();
        for (int i = 0; i < 8; i++) {
            x.clock(i, 100 * i + 100);
            Play.start(x, i);
        }
        for (int i = 0; i < 8; i += 7) {
            x.crash(i);
            Play.start(x, i);
            check.issuer(x, i, 1, 0, i, 2, 100 * i + 100 + 119999, -1, 0, 0);
        }
    }
}

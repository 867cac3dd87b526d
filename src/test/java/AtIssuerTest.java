/** What an issuer does with PROMISE, YES and NO. */
public final class AtIssuerTest {
    public static void main(String[] args) {
        Check check = new Check();
        promisesAreCountedOncePerNode(check);
        promisesOfAnotherBallotAreLost(check);
        promiseTellsRowsAsTheyWere(check);
        greatestBallotOfTheThreeCounts(check);
        thirdPromiseTellsOfAHolder(check);
        earlierPromisesAreForgotten(check);
        earlierCountsAreForgotten(check);
        yesIsCountedOncePerNode(check);
        yesBeforeAcceptingIsLost(check);
        noFailsWhatever(check);
        noWithoutAttemptIsLost(check);
        noBehindTheEndIsLost(check);
        theThirdPromiseAndTheFourth(check);
        theThirdYesAndTheFourth(check);
        anyThreeNodesWillDo(check);
        lettersToOneNotConcernedAreLost(check);
        whatIsCountedTwiceIsLost(check);
        aSecondNoSaysNothing(check);
        greatestBallotInAnyOrder(check);
        check.end();
    }

    private static void promisesAreCountedOncePerNode(Check check) {
        IssueHouse x = new IssueHouse();
        x.start(0);
        x.deliver(0);
        x.deliver(0);
        x.deliver(0);
        x.twin(2);
        x.twin(2);
        x.twin(3);
        check.due("node 0", x.deliver(2), 0);
        check.due("node 0 again", x.deliver(4), 0);
        check.due("node 0 once more", x.deliver(4), 0);
        check.due("node 1", x.deliver(2), 0);
        check.due("node 1 again", x.deliver(3), 0);
        check.due("issuer(0, 1)", x.issuer(0, 1), 1);
        check.due("node 2", x.deliver(2), 5);
        check.due("issuer(0, 1)", x.issuer(0, 1), 2);
        for (int n = 0; n < 5; n++) {
            check.due("kind", x.letter(2 + n, 0), Play.ACCEPT);
            check.due("issuer", x.letter(2 + n, 1), 0);
            check.due("node", x.letter(2 + n, 2), n);
            check.due("ballot", x.letter(2 + n, 3), 8);
            check.due("seat", x.letter(2 + n, 4), 0);
            check.due("promised", x.letter(2 + n, 5), -1);
        }
        x.deliver(0);
        check.due("a fourth PROMISE", x.deliver(6), 0);
    }

    private static void promisesOfAnotherBallotAreLost(Check check) {
        IssueHouse x = new IssueHouse();
        x.start(0);
        for (int n = 0; n < 5; n++) {
            x.deliver(0);
        }
        x.crash(0);
        check.due("PROMISE to one at no attempt", x.deliver(0), 0);
        x.start(0);
        for (int n = 0; n < 4; n++) {
            check.due("PROMISE with an old ballot", x.deliver(0), 0);
        }
        check.due("issuer(0, 1)", x.issuer(0, 1), 1);
        check.due("letters()", x.letters(), 5);
    }

    private static void promiseTellsRowsAsTheyWere(Check check) {
        IssueHouse x = new IssueHouse();
        x.start(1);
        for (int n = 0; n < 5; n++) {
            x.deliver(0);
        }
        x.start(2);
        for (int n = 0; n < 5; n++) {
            x.deliver(5);
        }
        for (int n = 0; n < 3; n++) {
            x.deliver(5);
        }
        for (int n = 0; n < 5; n++) {
            x.deliver(7);
        }
        check.due("seat(0, 0)", x.seat(0, 0), 2);
        x.twin(0);
        x.deliver(x.letters() - 1);
        x.deliver(1);
        check.due("the late third PROMISE", x.deliver(1), 5);
        check.due("the seat that was free then", x.letter(x.letters() - 1, 4), 0);
        x.deliver(x.letters() - 1);
        check.due("answer to its ACCEPT", x.letter(x.letters() - 1, 0), Play.NO);
        check.due("seat(0, 0)", x.seat(0, 0), 2);
    }

    private static void greatestBallotOfTheThreeCounts(Check check) {
        IssueHouse x = new IssueHouse();
        x.clock(0, 5000);
        Play.startInVain(x, 0, 0, 1, 2, 0);
        x.clock(0, 1000);
        Play.startInVain(x, 0, 1, 2, 3, 1);
        x.clock(0, 0);
        Play.startWith(x, 0, 0, 1, 4);
        check.due("term behind the row with ballot 16", x.issuer(0, 3), 2);
        check.due("span behind the row with ballot 16", x.issuer(0, 4), 120999);
        IssueHouse y = new IssueHouse();
        y.clock(0, 5000);
        Play.startInVain(y, 0, 0, 1, 2, 0);
        y.clock(0, 1000);
        Play.startInVain(y, 0, 1, 2, 3, 4);
        y.clock(0, 0);
        Play.startWith(y, 0, 0, 1, 4);
        check.due("span when the third PROMISE has the greatest", y.issuer(0, 4), 120999);
    }

    private static void thirdPromiseTellsOfAHolder(Check check) {
        IssueHouse x = new IssueHouse();
        Play.startInVain(x, 0, 0, 1, 2, 4);
        Play.startWith(x, 1, 0, 1, 4);
        check.due("seat, seat 0 being held at node 4", x.issuer(1, 2), 1);
    }

    private static void earlierCountsAreForgotten(Check check) {
        IssueHouse x = new IssueHouse();
        x.start(0);
        x.deliver(0);
        x.deliver(0);
        x.deliver(3);
        x.deliver(3);
        x.crash(0);
        Play.clear(x);
        x.start(0);
        x.deliver(2);
        check.due("the first PROMISE of a new attempt", x.deliver(4), 0);
        check.due("issuer(0, 1)", x.issuer(0, 1), 1);
    }

    private static void earlierPromisesAreForgotten(Check check) {
        IssueHouse x = new IssueHouse();
        x.clock(0, 9000);
        Play.startInVain(x, 0, 0, 1, 2, 0);
        x.start(0);
        x.deliver(0);
        x.deliver(4);
        x.crash(0);
        Play.clear(x);
        x.clock(0, 0);
        Play.startWith(x, 0, 1, 2, 3);
        check.due("term, node 0 not being heard", x.issuer(0, 3), 1);
        check.due("span, node 0 not being heard", x.issuer(0, 4), 60000);
    }

    private static void yesIsCountedOncePerNode(Check check) {
        IssueHouse x = new IssueHouse();
        x.clock(0, 50);
        x.start(0);
        Play.promises(x, 0, 1, 2);
        Play.accept(x, 0, 3, 4);
        x.twin(4);
        x.twin(4);
        check.due("node 0", x.deliver(4), 0);
        check.due("node 0 again", x.deliver(6), 0);
        check.due("node 0 once more", x.deliver(6), 0);
        check.due("node 3", x.deliver(4), 0);
        check.due("issuer(0, 0)", x.issuer(0, 0), 0);
        check.due("issuer(0, 1)", x.issuer(0, 1), 2);
        check.due("node 4", x.deliver(4), 0);
        check.due("issuer(0, 0)", x.issuer(0, 0), 1);
        check.due("issuer(0, 1)", x.issuer(0, 1), 0);
        check.due("issuer(0, 2)", x.issuer(0, 2), 0);
        check.due("issuer(0, 3)", x.issuer(0, 3), 1);
        check.due("issuer(0, 4)", x.issuer(0, 4), 60049);
    }

    private static void yesBeforeAcceptingIsLost(Check check) {
        IssueHouse x = new IssueHouse();
        x.start(0);
        Play.promises(x, 0, 1, 2);
        Play.accept(x, 0, 1, 2);
        x.crash(0);
        x.start(0);
        for (int n = 0; n < 3; n++) {
            check.due("YES with an old ballot", x.deliver(4), 0);
        }
        check.due("issuer(0, 0)", x.issuer(0, 0), 0);
        check.due("issuer(0, 1)", x.issuer(0, 1), 1);
    }

    private static void noFailsWhatever(Check check) {
        IssueHouse x = new IssueHouse();
        x.start(0);
        x.twin(0);
        x.deliver(0);
        x.deliver(4);
        check.due("deliver of NO while preparing", x.deliver(5), 0);
        check.due("issuer(0, 1)", x.issuer(0, 1), 0);
        check.due("issuer(0, 6)", x.issuer(0, 6), 1);
        Play.clear(x);
        x.start(0);
        check.due("ballot behind NO with its own number", x.letter(0, 3), 16);
        noFailsWhileAccepting(check);
    }

    private static void noFailsWhileAccepting(Check check) {
        IssueHouse x = new IssueHouse();
        x.start(0);
        Play.promises(x, 0, 1, 2);
        x.twin(0);
        x.deliver(0);
        x.deliver(6);
        check.due("letter(7, 0)", x.letter(7, 0), Play.NO);
        check.due("issuer(0, 1)", x.issuer(0, 1), 2);
        check.due("deliver of NO while accepting", x.deliver(7), 0);
        check.due("issuer(0, 1)", x.issuer(0, 1), 0);
        check.due("issuer(0, 6)", x.issuer(0, 6), 1);
        for (int n = 0; n < 3; n++) {
            x.deliver(1);
        }
        for (int n = 0; n < 3; n++) {
            check.due("late YES", x.letter(x.letters() - 1, 0), Play.YES);
            x.deliver(x.letters() - 1);
        }
        check.due("issuer(0, 0)", x.issuer(0, 0), 0);
    }

    private static void noBehindTheEndIsLost(Check check) {
        IssueHouse x = new IssueHouse();
        x.start(0);
        x.twin(0);
        x.deliver(0);
        x.deliver(4);
        x.deliver(0);
        x.deliver(0);
        x.deliver(2);
        x.deliver(3);
        x.deliver(3);
        for (int n = 0; n < 3; n++) {
            x.deliver(3);
        }
        for (int n = 0; n < 3; n++) {
            x.deliver(5);
        }
        check.due("issuer(0, 0)", x.issuer(0, 0), 1);
        check.due("letter(2, 0)", x.letter(2, 0), Play.NO);
        check.due("deliver of NO", x.deliver(2), 0);
        check.due("issuer(0, 0)", x.issuer(0, 0), 1);
        check.due("issuer(0, 6)", x.issuer(0, 6), 0);
    }

    private static void noWithoutAttemptIsLost(Check check) {
        IssueHouse x = new IssueHouse();
        x.start(0);
        x.twin(0);
        x.twin(0);
        x.deliver(0);
        x.deliver(4);
        x.deliver(4);
        check.due("letter(5, 0)", x.letter(5, 0), Play.NO);
        check.due("letter(6, 0)", x.letter(6, 0), Play.NO);
        x.deliver(5);
        check.due("deliver of the second NO", x.deliver(5), 0);
        check.due("issuer(0, 6)", x.issuer(0, 6), 1);
        Play.clear(x);
        x.start(0);
        x.twin(0);
        x.deliver(0);
        x.deliver(4);
        check.due("letter(5, 0)", x.letter(5, 0), Play.NO);
        x.crash(0);
        x.start(0);
        check.due("deliver of NO with an old ballot", x.deliver(5), 0);
        check.due("issuer(0, 1)", x.issuer(0, 1), 1);
        check.due("issuer(0, 6)", x.issuer(0, 6), 1);
    }

    /** "With the third one": not with the second, and the fourth and fifth change nothing. */
    private static void theThirdPromiseAndTheFourth(Check check) {
        Same.Calls promised = x -> {
            x.start(0);
            for (int n = 0; n < 5; n++) {
                x.deliver(0);
            }
        };
        IssueHouse x = new IssueHouse();
        promised.on(x);
        int[] sent = {0, 0, 5, 0, 0};
        int[] doing = {1, 1, 2, 2, 2};
        for (int n = 0; n < 5; n++) {
            check.due("deliver(0) of PROMISE " + (n + 1), x.deliver(0), sent[n]);
            check.due("issuer(0, 1) behind PROMISE " + (n + 1), x.issuer(0, 1), doing[n]);
        }
        check.due("letters()", x.letters(), 5);
        isAsLost(check, "the fourth PROMISE", y -> {
            promised.on(y);
            y.deliver(0);
            y.deliver(0);
            y.deliver(0);
        }, 0);
    }

    /** "With the third one the attempt is done": not with the second, and the fourth and fifth change nothing. */
    private static void theThirdYesAndTheFourth(Check check) {
        Same.Calls accepted = x -> {
            x.clock(0, 300);
            x.start(0);
            Play.promises(x, 0, 1, 2);
            x.lose(0);
            x.lose(0);
            for (int n = 0; n < 5; n++) {
                x.deliver(0);
            }
        };
        IssueHouse x = new IssueHouse();
        accepted.on(x);
        for (int n = 0; n < 5; n++) {
            check.due("deliver(0) of YES " + (n + 1), x.deliver(0), 0);
            check.due("issuer(0, 0) behind YES " + (n + 1), x.issuer(0, 0), n < 2 ? 0 : 1);
            check.due("issuer(0, 1) behind YES " + (n + 1), x.issuer(0, 1), n < 2 ? 2 : 0);
            check.due("issuer(0, 4) behind YES " + (n + 1), x.issuer(0, 4), n < 2 ? -1 : 60299);
            check.due("next(0) behind YES " + (n + 1), x.next(0), n < 2 ? 0 : Play.number(300, 0, n - 2));
        }
        isAsLost(check, "the fourth YES", y -> {
            accepted.on(y);
            y.deliver(0);
            y.deliver(0);
            y.deliver(0);
            y.batch(0, 20);
        }, 0);
    }

    /** A majority is any three of the five. */
    private static void anyThreeNodesWillDo(Check check) {
        for (int a = 0; a < 3; a++) {
            for (int b = a + 1; b < 4; b++) {
                for (int c = b + 1; c < 5; c++) {
                    IssueHouse x = new IssueHouse();
                    Play.startWith(x, 2, a, b, c);
                    check.issuer(x, 2, 1, 0, 0, 1, 60000);
                    Play.prolongWith(x, 2, a, b, c);
                    check.issuer(x, 2, 1, 0, 0, 1, 120000);
                }
            }
        }
    }

    /** Delivered, letter k does what it does when it is lost: nothing. */
    private static void isAsLost(Check check, String text, Same.Calls before, int k) {
        Same.runs(check, text, x -> {
            before.on(x);
            check.due("deliver(" + k + ") of " + text, x.deliver(k), 0);
        }, x -> {
            before.on(x);
            x.lose(k);
        });
    }

    /** "or to an issuer that is not concerned, is lost when it is delivered": each kind, each reason. */
    private static void lettersToOneNotConcernedAreLost(Check check) {
        int promise = Play.BUSY_THIRD_PROMISE;
        int no = Play.BUSY_NO;
        int yes = Play.BUSY_THIRD_YES;
        Same.Calls crashed = x -> {
            Play.busy(x);
            x.crash(4);
            x.crash(6);
        };
        isAsLost(check, "PROMISE to one at no attempt", crashed, promise);
        isAsLost(check, "NO to one at no attempt", crashed, no);
        isAsLost(check, "YES to one at no attempt", crashed, yes);
        Same.Calls begunAnew = x -> {
            crashed.on(x);
            x.start(4);
            x.start(6);
        };
        isAsLost(check, "PROMISE with an old ballot", begunAnew, promise);
        isAsLost(check, "NO with an old ballot", begunAnew, no);
        isAsLost(check, "YES with an old ballot", begunAnew, yes);
        isAsLost(check, "PROMISE to one that is accepting", x -> {
            Play.busy(x);
            x.twin(promise);
            x.deliver(promise);
        }, Play.BUSY_LETTERS - 1);
        isAsLost(check, "YES to one whose attempt failed", x -> {
            Play.busy(x);
            x.deliver(no);
        }, yes - 1);
        isAsLost(check, "NO to one whose attempt is done", x -> {
            Play.busy(x);
            x.deliver(yes);
        }, no);
        isAsLost(check, "NO with an old ballot to one that prolongs", x -> {
            Play.busy(x);
            x.deliver(yes);
            x.prolong(4);
        }, no);
    }

    /** "and that node was not counted". */
    private static void whatIsCountedTwiceIsLost(Check check) {
        Same.Calls twoPromises = x -> {
            x.start(0);
            x.deliver(0);
            x.twin(4);
            x.deliver(0);
            x.deliver(5);
            x.deliver(3);
        };
        isAsLost(check, "a twin of a counted PROMISE", twoPromises, 3);
        Same.Calls twoYes = x -> {
            x.start(0);
            Play.promises(x, 0, 1, 2);
            x.deliver(2);
            x.twin(6);
            x.deliver(2);
            x.deliver(7);
            x.deliver(5);
        };
        IssueHouse x = new IssueHouse();
        twoPromises.on(x);
        check.letter(x, 3, Play.PROMISE, 0, 0, 8);
        IssueHouse y = new IssueHouse();
        twoYes.on(y);
        check.letter(y, 5, Play.YES, 0, 0, 8);
        isAsLost(check, "a twin of a counted YES", twoYes, 5);
    }

    /** "NUMBERS: its next ballot's a is then more": only the NO that made the attempt fail says so. */
    private static void aSecondNoSaysNothing(Check check) {
        check.due("the ballot behind NO with 15 and a late one with 47", ballotBehindTwoNo(0, 1), 16);
        check.due("the ballot behind NO with 47 and a late one with 15", ballotBehindTwoNo(1, 0), 48);
    }

    /** Issuer 0 gets NO of node 0, which promised 15, and of node 1, which promised 47. */
    private static int ballotBehindTwoNo(int firstNode, int secondNode) {
        IssueHouse x = new IssueHouse();
        x.start(7);
        x.deliver(0);
        x.crash(7);
        Play.clear(x);
        Play.skip(x, 7, 3);
        x.start(7);
        x.deliver(1);
        Play.clear(x);
        x.start(0);
        x.deliver(firstNode);
        x.deliver(secondNode > firstNode ? secondNode - 1 : secondNode);
        x.deliver(3);
        x.deliver(3);
        Play.clear(x);
        x.start(0);
        return x.letter(0, 3);
    }

    /** "of each seat, of these three nodes' rows that with the greatest ballot", be it told first or last. */
    private static void greatestBallotInAnyOrder(Check check) {
        for (int[] order : Play.ORDERS) {
            IssueHouse x = new IssueHouse();
            Play.threeRows(x, order);
            Play.startWith(x, 0, 0, 1, 2);
            check.issuer(x, 0, 1, 0, 0, 2, 120999, -1, 0, 0);
        }
    }
}

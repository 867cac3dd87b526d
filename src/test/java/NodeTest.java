/** Promise 6. */
public final class NodeTest {
    public static void main(String[] args) {
        Check check = new Check();
        wrongInputs(check);
        lettersToADownNodeAreLost(check);
        keepsWhatItKnows(check);
        answersOfADownNodeStillArrive(check);
        noSuchNode(check);
        everyNodeMayBeDown(check);
        twiceTheSameIsOnce(check);
        aDownNodeKeepsWhatItPromised(check);
        aLetterToADownNodeIsLost(check);
        check.end();
    }

    private static void wrongInputs(Check check) {
        IssueHouse x = new IssueHouse();
        check.outOfBounds("node(-1, true)", () -> x.node(-1, true));
        check.outOfBounds("node(5, false)", () -> x.node(5, false));
        x.node(0, true);
        x.node(4, false);
        x.node(4, false);
    }

    private static void lettersToADownNodeAreLost(Check check) {
        IssueHouse x = new IssueHouse();
        x.node(1, false);
        x.start(0);
        check.due("deliver(1) of PREPARE", x.deliver(1), 0);
        check.due("letters()", x.letters(), 4);
        x.node(1, true);
        check.due("deliver(0) of PREPARE", x.deliver(0), 1);
        x.deliver(0);
        x.deliver(0);
        x.deliver(1);
        x.deliver(1);
        check.due("deliver(1) of the third PROMISE", x.deliver(1), 5);
        x.node(0, false);
        check.due("deliver(1) of ACCEPT", x.deliver(1), 0);
        check.due("letters()", x.letters(), 5);
        x.node(0, true);
        check.due("letters(), what was lost stays lost", x.letters(), 5);
    }

    private static void keepsWhatItKnows(Check check) {
        IssueHouse x = Play.readyAt(1000);
        for (int n = 0; n < 5; n++) {
            x.node(n, false);
        }
        for (int n = 0; n < 5; n++) {
            x.node(n, true);
        }
        check.due("seat(0, 0)", x.seat(0, 0), 0);
        check.due("seat(0, 2)", x.seat(0, 2), 60999);
        x.start(1);
        x.twin(0);
        x.deliver(0);
        x.node(0, false);
        x.node(0, true);
        x.deliver(4);
        check.due("answer to the doubled PREPARE", x.letter(5, 0), Play.NO);
        check.due("its promised number", x.letter(5, 5), 9);
    }

    private static void answersOfADownNodeStillArrive(Check check) {
        IssueHouse x = new IssueHouse();
        x.start(0);
        x.deliver(0);
        x.deliver(0);
        x.deliver(0);
        for (int n = 0; n < 5; n++) {
            x.node(n, false);
        }
        x.deliver(2);
        x.deliver(2);
        check.due("deliver of the third PROMISE", x.deliver(2), 5);
    }

    /** "NODES 0 .. 4": both ends are taken, what lies beside them is not. */
    private static void noSuchNode(Check check) {
        IssueHouse x = new IssueHouse();
        for (int n : new int[] {Integer.MIN_VALUE, -1, 5, Integer.MAX_VALUE}) {
            check.outOfBounds("node(" + n + ", true)", () -> x.node(n, true));
            check.outOfBounds("node(" + n + ", false)", () -> x.node(n, false));
        }
        for (int n = 0; n < 5; n++) {
            x.node(n, false);
            x.node(n, true);
        }
    }

    /** "A node is down, or up": just that one. */
    private static void everyNodeMayBeDown(Check check) {
        for (int down = 0; down < 5; down++) {
            IssueHouse x = new IssueHouse();
            x.node(down, false);
            x.start(0);
            for (int n = 0; n < 5; n++) {
                check.due("deliver(0) to node " + n + ", " + down + " being down", x.deliver(0), n == down ? 0 : 1);
            }
            x.node(down, true);
            x.start(1);
            check.due("deliver to node " + down + ", up again", x.deliver(4 + down), 1);
        }
    }

    private static void twiceTheSameIsOnce(Check check) {
        Same.answers(check, "node(4, false) of one that is down", 0, Play::busy, Same.call(x -> x.node(4, false)));
        Same.answers(check, "node(0, true) of one that is up", 0, Play::busy, Same.call(x -> x.node(0, true)));
        Same.answers(check, "down and up again", 0, Play::busy, Same.call(x -> {
            x.node(0, false);
            x.node(0, true);
        }));
    }

    /** "Each node keeps, also when it is down, a number that it PROMISED". */
    private static void aDownNodeKeepsWhatItPromised(Check check) {
        IssueHouse x = new IssueHouse();
        x.start(7);
        x.deliver(0);
        Play.clear(x);
        x.node(0, false);
        x.start(6);
        check.due("deliver(0) while it is down", x.deliver(0), 0);
        Play.clear(x);
        x.node(0, true);
        x.start(5);
        x.deliver(0);
        check.due("the answer to ballot 13", x.letter(4, 0), Play.NO);
        check.due("its promised number", x.letter(4, 5), 15);
    }

    /** "A letter to a node that is down ... is lost when it is delivered": as by lose(). */
    private static void aLetterToADownNodeIsLost(Check check) {
        for (int k : new int[] {1, 2, 4}) {
            Same.runs(check, "letter " + k + " to node 4, which is down", x -> {
                Play.busy(x);
                check.due("deliver(" + k + ")", x.deliver(k), 0);
            }, x -> {
                Play.busy(x);
                x.lose(k);
            });
        }
    }
}

/** Promise 6. */
public final class NodeTest {
    public static void main(String[] args) {
        Check check = new Check();
        wrongInputs(check);
        lettersToADownNodeAreLost(check);
        keepsWhatItKnows(check);
        answersOfADownNodeStillArrive(check);
        check.end();
    }

    private static void wrongInputs(Check check) {
        IssueHouse x = new IssueHouse();
        check.outOfBounds("node(-1, true)", () -> x.node(-1, true));
        check.outOfBounds("node(5, false)", () -> x.node(5, false));
        x.node(0, true);
        x.node(4, false);
        x.node(4, false);
    }

    private static void lettersToADownNodeAreLost(Check check) {
        IssueHouse x = new IssueHouse();
        x.node(1, false);
        x.start(0);
        check.due("deliver(1) of PREPARE", x.deliver(1), 0);
        check.due("letters()", x.letters(), 4);
        x.node(1, true);
        check.due("deliver(0) of PREPARE", x.deliver(0), 1);
        x.deliver(0);
        x.deliver(0);
        x.deliver(1);
        x.deliver(1);
        check.due("deliver(1) of the third PROMISE", x.deliver(1), 5);
        x.node(0, false);
        check.due("deliver(1) of ACCEPT", x.deliver(1), 0);
        check.due("letters()", x.letters(), 5);
        x.node(0, true);
        check.due("letters(), what was lost stays lost", x.letters(), 5);
    }

    private static void keepsWhatItKnows(Check check) {
        IssueHouse x = Play.readyAt(1000);
        for (int n = 0; n < 5; n++) {
            x.node(n, false);
        }
        for (int n = 0; n < 5; n++) {
            x.node(n, true);
        }
        check.due("seat(0, 0)", x.seat(0, 0), 0);
        check.due("seat(0, 2)", x.seat(0, 2), 60999);
        x.start(1);
        x.twin(0);
        x.deliver(0);
        x.node(0, false);
        x.node(0, true);
        x.deliver(4);
        check.due("answer to the doubled PREPARE", x.letter(5, 0), Play.NO);
        check.due("its promised number", x.letter(5, 5), 9);
    }

    private static void answersOfADownNodeStillArrive(Check check) {
        IssueHouse x = new IssueHouse();
        x.start(0);
        x.deliver(0);
        x.deliver(0);
        x.deliver(0);
        for (int n = 0; n < 5; n++) {
            x.node(n, false);
        }
        x.deliver(2);
        x.deliver(2);
        check.due("deliver of the third PROMISE", x.deliver(2), 5);
    }
}

/** Promise 15. */
public final class SeatTest {
    public static void main(String[] args) {
        Check check = new Check();
        wrongInputs(check);
        whatItTells(check);
        onlyNodesThatAreUp(check);
        greatestBallot(check);
        check.end();
    }

    private static void wrongInputs(Check check) {
        IssueHouse x = new IssueHouse();
        check.outOfBounds("seat(-1, 0)", () -> x.seat(-1, 0));
        check.outOfBounds("seat(8, 0)", () -> x.seat(8, 0));
        check.outOfBounds("seat(0, -1)", () -> x.seat(0, -1));
        check.outOfBounds("seat(0, 3)", () -> x.seat(0, 3));
        check.due("seat(7, 2)", x.seat(7, 2), -1);
        x.node(0, false);
        x.node(1, false);
        x.node(2, false);
        check.outOfBounds("seat(8, 0) with two up", () -> x.seat(8, 0));
        check.outOfBounds("seat(0, 3) with two up", () -> x.seat(0, 3));
    }

    private static void whatItTells(Check check) {
        IssueHouse x = Play.readyAt(1000);
        x.clock(3, 2000);
        Play.start(x, 3);
        seatIs(check, x, 0, 0, 1, 60999);
        seatIs(check, x, 1, 3, 1, 61999);
        seatIs(check, x, 2, -1, -1, -1);
        seatIs(check, x, 7, -1, -1, -1);
        x.crash(3);
        Play.start(x, 3);
        seatIs(check, x, 1, 3, 2, 121999);
    }

    private static void onlyNodesThatAreUp(Check check) {
        IssueHouse x = Play.readyAt(1000);
        x.node(3, false);
        x.node(4, false);
        seatIs(check, x, 0, 0, 1, 60999);
        x.node(0, false);
        seatIs(check, x, 0, -1, -1, -1);
        x.node(3, true);
        x.node(4, true);
        seatIs(check, x, 0, 0, 1, 60999);
        x.node(1, false);
        seatIs(check, x, 0, 0, 1, 60999);
        IssueHouse y = new IssueHouse();
        Play.startInVain(y, 0, 0, 1, 2, 4);
        seatIs(check, y, 0, 0, 1, 60000);
        y.node(4, false);
        seatIs(check, y, 0, -1, -1, -1);
    }

    private static void greatestBallot(Check check) {
        IssueHouse x = new IssueHouse();
        x.clock(0, 5000);
        Play.startInVain(x, 0, 0, 1, 2, 0);
        x.clock(1, 1000);
        Play.startInVain(x, 1, 1, 2, 3, 1);
        seatIs(check, x, 0, 1, 1, 60999);
        x.node(1, false);
        seatIs(check, x, 0, 0, 1, 64999);
        x.node(0, false);
        seatIs(check, x, 0, -1, -1, -1);
        x.node(1, true);
        seatIs(check, x, 0, 1, 1, 60999);
    }

    private static void seatIs(Check check, IssueHouse x, int seat, long... due) {
        for (int what = 0; what < 3; what++) {
            check.due("seat(" + seat + ", " + what + ")", x.seat(seat, what), due[what]);
        }
    }
}

/** Promise 15. */
public final class SeatTest {
    public static void main(String[] args) {
        Check check = new Check();
        wrongInputs(check);
        whatItTells(check);
        onlyNodesThatAreUp(check);
        greatestBallot(check);
        noSuchSeatOrWhat(check);
        howManyAreUp(check);
        everySeat(check);
        withoutAHolder(check);
        aMarkAtTheEndOfTime(check);
        greatestBallotAtAnyNode(check);
        check.end();
    }

    private static void wrongInputs(Check check) {
        IssueHouse x = new IssueHouse();
        check.outOfBounds("seat(-1, 0)", () -> x.seat(-1, 0));
        check.outOfBounds("seat(8, 0)", () -> x.seat(8, 0));
        check.outOfBounds("seat(0, -1)", () -> x.seat(0, -1));
        check.outOfBounds("seat(0, 3)", () -> x.seat(0, 3));
        check.due("seat(7, 2)", x.seat(7, 2), -1);
        x.node(0, false);
        x.node(1, false);
        x.node(2, false);
        check.outOfBounds("seat(8, 0) with two up", () -> x.seat(8, 0));
        check.outOfBounds("seat(0, 3) with two up", () -> x.seat(0, 3));
    }

    private static void whatItTells(Check check) {
        IssueHouse x = Play.readyAt(1000);
        x.clock(3, 2000);
        Play.start(x, 3);
        check.seat(x, 0, 0, 1, 60999);
        check.seat(x, 1, 3, 1, 61999);
        check.seat(x, 2, -1, -1, -1);
        check.seat(x, 7, -1, -1, -1);
        x.crash(3);
        Play.start(x, 3);
        check.seat(x, 1, 3, 2, 121999);
    }

    private static void onlyNodesThatAreUp(Check check) {
        IssueHouse x = Play.readyAt(1000);
        x.node(3, false);
        x.node(4, false);
        check.seat(x, 0, 0, 1, 60999);
        x.node(0, false);
        check.seat(x, 0, -1, -1, -1);
        x.node(3, true);
        x.node(4, true);
        check.seat(x, 0, 0, 1, 60999);
        x.node(1, false);
        check.seat(x, 0, 0, 1, 60999);
        IssueHouse y = new IssueHouse();
        Play.startInVain(y, 0, 0, 1, 2, 4);
        check.seat(y, 0, 0, 1, 60000);
        y.node(4, false);
        check.seat(y, 0, -1, -1, -1);
    }

    private static void greatestBallot(Check check) {
        IssueHouse x = new IssueHouse();
        x.clock(0, 5000);
        Play.startInVain(x, 0, 0, 1, 2, 0);
        x.clock(1, 1000);
        Play.startInVain(x, 1, 1, 2, 3, 1);
        check.seat(x, 0, 1, 1, 60999);
        x.node(1, false);
        check.seat(x, 0, 0, 1, 64999);
        x.node(0, false);
        check.seat(x, 0, -1, -1, -1);
        x.node(1, true);
        check.seat(x, 0, 1, 1, 60999);
    }

    /** "IndexOutOfBoundsException, when there is no such seat, or what": both ends of both. */
    private static void noSuchSeatOrWhat(Check check) {
        IssueHouse x = Play.readyAt(1000);
        for (int s : new int[] {Integer.MIN_VALUE, -1, 8, Integer.MAX_VALUE}) {
            for (int what = 0; what < 3; what++) {
                int w = what;
                check.outOfBounds("seat(" + s + ", " + w + ")", () -> x.seat(s, w));
            }
        }
        for (int what : new int[] {Integer.MIN_VALUE, -1, 3, Integer.MAX_VALUE}) {
            check.outOfBounds("seat(0, " + what + ")", () -> x.seat(0, what));
            check.outOfBounds("seat(7, " + what + ")", () -> x.seat(7, what));
        }
        check.seat(x, 0, 0, 1, 60999);
        check.seat(x, 7, -1, -1, -1);
    }

    /** "NONE when fewer than three are up": all, four and three are enough; two, one and none are not. */
    private static void howManyAreUp(Check check) {
        IssueHouse x = new IssueHouse();
        x.start(2);
        Play.promises(x, 0, 1, 2);
        for (int n = 0; n < 5; n++) {
            x.deliver(2);
        }
        for (int down = 0; down < 5; down++) {
            told(check, x, 5 - down);
            x.node(down, false);
        }
        told(check, x, 0);
        for (int up = 1; up <= 5; up++) {
            x.node(5 - up, true);
            told(check, x, up);
        }
    }

    private static void told(Check check, IssueHouse x, int up) {
        boolean enough = up >= 3;
        check.due("seat(0, 0) with " + up + " up", x.seat(0, 0), enough ? 2 : -1);
        check.due("seat(0, 1) with " + up + " up", x.seat(0, 1), enough ? 1 : -1);
        check.due("seat(0, 2) with " + up + " up", x.seat(0, 2), enough ? 60000 : -1);
    }

    /** "SEATS 0 .. 7": none is held, and all of them are. */
    private static void everySeat(Check check) {
        IssueHouse x = new IssueHouse();
        for (int s = 0; s < 8; s++) {
            check.seat(x, s, -1, -1, -1);
        }
        for (int i = 0; i < 8; i++) {
            x.clock(i, 10 * i + 10);
            Play.start(x, i);
        }
        for (int s = 0; s < 8; s++) {
            check.seat(x, s, s, 1, 10 * s + 10 + 59999);
        }
    }

    /** "or there is no holder": NONE, not the 0 of the first term and mark, until an ACCEPT has come. */
    private static void withoutAHolder(Check check) {
        IssueHouse x = new IssueHouse();
        x.start(0);
        Play.promises(x, 0, 1, 2);
        check.seat(x, 0, -1, -1, -1);
        x.deliver(2);
        check.seat(x, 0, 0, 1, 60000);
        check.seat(x, 1, -1, -1, -1);
    }

    private static void aMarkAtTheEndOfTime(Check check) {
        IssueHouse x = Play.readyAt(Play.LATEST - 59999);
        check.seat(x, 0, 0, 1, Play.LATEST);
    }

    /** "the seat's row with the greatest ballot among all nodes that are up", be it at the first or the last. */
    private static void greatestBallotAtAnyNode(Check check) {
        for (int[] order : Play.ORDERS) {
            IssueHouse x = new IssueHouse();
            Play.threeRows(x, order);
            check.seat(x, 0, 0, 1, 60999);
            x.node(order[2], false);
            check.seat(x, 0, 0, 1, 64999);
            x.node(order[1], false);
            check.seat(x, 0, 0, 1, 68999);
        }
    }
}

/** Promise 3. */
public final class StartTest {
    public static void main(String[] args) {
        Check check = new Check();
        wrongInputs(check);
        sendsPrepareToAllNodes(check);
        refusedWhenReadyOrAtAnAttempt(check);
        refusedWithoutRoom(check);
        ballotsRise(check);
        ballotsGoAboveWhatNumbersSay(check);
        takesTheLowestFreeSeat(check);
        takesItsOwnSeatFirst(check);
        failsWithoutASeat(check);
        failsWithoutASpan(check);
        check.end();
    }

    private static void wrongInputs(Check check) {
        IssueHouse x = new IssueHouse();
        check.outOfBounds("start(-1)", () -> x.start(-1));
        check.outOfBounds("start(8)", () -> x.start(8));
        x.start(0);
        Play.fill(x, 0, 90);
        check.outOfBounds("start(8) without room", () -> x.start(8));
    }

    private static void sendsPrepareToAllNodes(Check check) {
        IssueHouse x = new IssueHouse();
        x.start(7);
        check.due("letters()", x.letters(), 5);
        for (int n = 0; n < 5; n++) {
            long[] due = {Play.PREPARE, 7, n, 15, -1, -1};
            for (int what = 0; what < 6; what++) {
                check.due("letter(" + n + ", " + what + ")", x.letter(n, what), due[what]);
            }
        }
        check.due("issuer(7, 0)", x.issuer(7, 0), 0);
        check.due("issuer(7, 1)", x.issuer(7, 1), 1);
        check.due("issuer(6, 1)", x.issuer(6, 1), 0);
    }

    private static void refusedWhenReadyOrAtAnAttempt(Check check) {
        IssueHouse x = new IssueHouse();
        x.start(0);
        check.badState("start(0) while preparing", () -> x.start(0));
        Play.promises(x, 0, 1, 2);
        check.badState("start(0) while accepting", () -> x.start(0));
        Play.accept(x, 0, 1, 2);
        x.deliver(4);
        x.deliver(4);
        x.deliver(4);
        check.badState("start(0) when ready", () -> x.start(0));
        check.due("letters()", x.letters(), 4);
        x.prolong(0);
        check.badState("start(0) while prolonging", () -> x.start(0));
        check.due("letters()", x.letters(), 9);
    }

    private static void refusedWithoutRoom(Check check) {
        IssueHouse x = new IssueHouse();
        x.start(0);
        Play.fill(x, 0, 86);
        check.badState("start(1) with 86 letters", () -> x.start(1));
        check.due("issuer(1, 1)", x.issuer(1, 1), 0);
        check.due("letters()", x.letters(), 86);
        x.lose(0);
        x.start(1);
        check.due("letters()", x.letters(), 90);
        check.due("the ballot, the refused start being no attempt", x.letter(89, 3), 9);
    }

    private static void ballotsRise(Check check) {
        IssueHouse x = new IssueHouse();
        for (int a = 1; a <= 4; a++) {
            x.start(3);
            check.due("ballot of attempt " + a, x.letter(0, 3), 8 * a + 3);
            x.crash(3);
            Play.clear(x);
        }
        x.start(2);
        check.due("ballot of another issuer", x.letter(0, 3), 10);
    }

    private static void ballotsGoAboveWhatNumbersSay(Check check) {
        IssueHouse x = new IssueHouse();
        for (int a = 1; a <= 5; a++) {
            Play.startInVain(x, 7, 0, 1, 2, 0);
        }
        x.start(0);
        x.deliver(0);
        check.due("kind", x.letter(4, 0), Play.NO);
        check.due("promised number", x.letter(4, 5), 47);
        x.deliver(4);
        check.due("issuer(0, 6)", x.issuer(0, 6), 1);
        Play.clear(x);
        x.start(0);
        check.due("ballot behind NO with 47", x.letter(0, 3), 48);
        x.crash(0);
        Play.clear(x);
        x.start(0);
        check.due("ballot behind that", x.letter(0, 3), 56);
    }

    private static void takesTheLowestFreeSeat(Check check) {
        IssueHouse x = new IssueHouse();
        for (int i = 0; i < 8; i++) {
            Play.start(x, i);
            takenBy(check, x, i, i);
        }
        IssueHouse y = new IssueHouse();
        for (int s = 0; s < 4; s++) {
            Play.skip(y, 7 - s, s);
            Play.start(y, 7 - s);
            takenBy(check, y, 7 - s, s);
        }
    }

    private static void takenBy(Check check, IssueHouse x, int issuer, int seat) {
        check.due("seat of issuer " + issuer, x.issuer(issuer, 2), seat);
        check.due("term of issuer " + issuer, x.issuer(issuer, 3), 1);
        check.due("span of issuer " + issuer, x.issuer(issuer, 4), 60000);
        check.due("holder of seat " + seat, x.seat(seat, 0), issuer);
    }

    private static void takesItsOwnSeatFirst(Check check) {
        IssueHouse x = new IssueHouse();
        Play.startInVain(x, 0, 0, 1, 2, 0);
        Play.startWith(x, 1, 0, 1, 2);
        check.due("seat of issuer 1, seat 0 being held at node 0", x.issuer(1, 2), 1);
        x.crash(1);
        Play.startWith(x, 1, 1, 2, 3);
        check.due("seat of issuer 1, seat 0 being free at nodes 1 to 3", x.issuer(1, 2), 1);
        check.due("term of issuer 1", x.issuer(1, 3), 2);
        check.due("span of issuer 1, behind the mark", x.issuer(1, 4), 120000);
    }

    /** Issuer 7 sees seat 6 taken over and seat 7 left behind, both by issuer 0. */
    private static void failsWithoutASeat(Check check) {
        IssueHouse x = new IssueHouse();
        for (int i = 1; i <= 6; i++) {
            Play.start(x, i);
        }
        Play.startInVain(x, 7, 0, 1, 2, 0);
        Play.skip(x, 0, 1);
        Play.startInVain(x, 0, 0, 1, 2, 0);
        check.due("holder of seat 7", x.seat(7, 0), 0);
        Play.startWith(x, 0, 1, 2, 3);
        check.due("seat of issuer 0", x.issuer(0, 2), 6);
        Play.skip(x, 7, 1);
        x.start(7);
        x.deliver(0);
        x.deliver(0);
        x.deliver(0);
        x.deliver(2);
        x.deliver(2);
        check.due("deliver of the third PROMISE", x.deliver(2), 0);
        check.due("issuer(7, 0)", x.issuer(7, 0), 0);
        check.due("issuer(7, 1)", x.issuer(7, 1), 0);
        check.due("issuer(7, 6)", x.issuer(7, 6), 1);
    }

    private static void failsWithoutASpan(Check check) {
        IssueHouse x = new IssueHouse();
        x.clock(0, Play.LATEST - 59998);
        x.start(0);
        x.deliver(0);
        x.deliver(0);
        x.deliver(0);
        x.deliver(2);
        x.deliver(2);
        check.due("deliver of the third PROMISE", x.deliver(2), 0);
        check.due("issuer(0, 1)", x.issuer(0, 1), 0);
        check.due("issuer(0, 6)", x.issuer(0, 6), 1);
        Play.clear(x);
        x.clock(0, Play.LATEST - 59999);
        Play.start(x, 0);
        check.due("issuer(0, 4)", x.issuer(0, 4), Play.LATEST);
        check.due("issuer(0, 6)", x.issuer(0, 6), 1);
    }
}

/** Promise 5. */
public final class CrashTest {
    public static void main(String[] args) {
        Check check = new Check();
        wrongInputs(check);
        endsReadiness(check);
        endsAnAttempt(check);
        forgetsNumbersButNotA(check);
        keepsTheClock(check);
        check.end();
    }

    private static void wrongInputs(Check check) {
        IssueHouse x = new IssueHouse();
        check.outOfBounds("crash(-1)", () -> x.crash(-1));
        check.outOfBounds("crash(8)", () -> x.crash(8));
        x.crash(7);
        check.due("issuer(7, 6)", x.issuer(7, 6), 0);
    }

    private static void endsReadiness(Check check) {
        IssueHouse x = Play.readyAt(1000);
        x.next(0);
        x.crash(0);
        long[] due = {0, 0, -1, -1, -1, -1, 0, 1};
        for (int what = 0; what < 8; what++) {
            check.due("issuer(0, " + what + ")", x.issuer(0, what), due[what]);
        }
        check.due("next(0)", x.next(0), 0);
        check.badState("prolong(0)", () -> x.prolong(0));
        check.due("seat(0, 0), of which the nodes know", x.seat(0, 0), 0);
        Play.start(x, 0);
        check.due("issuer(0, 2)", x.issuer(0, 2), 0);
        check.due("issuer(0, 3)", x.issuer(0, 3), 2);
        check.due("issuer(0, 4)", x.issuer(0, 4), 120999);
        check.due("issuer(0, 5)", x.issuer(0, 5), -1);
        check.due("issuer(0, 7)", x.issuer(0, 7), 1);
    }

    private static void endsAnAttempt(Check check) {
        IssueHouse x = new IssueHouse();
        x.start(0);
        Play.promises(x, 0, 1, 2);
        Play.accept(x, 0, 1, 2);
        x.crash(0);
        check.due("issuer(0, 1)", x.issuer(0, 1), 0);
        check.due("issuer(0, 6), it did not fail", x.issuer(0, 6), 0);
        check.due("letters()", x.letters(), 7);
        for (int j = 0; j < 3; j++) {
            check.due("deliver of a late YES", x.deliver(4), 0);
        }
        check.due("issuer(0, 0)", x.issuer(0, 0), 0);
    }

    private static void forgetsNumbersButNotA(Check check) {
        IssueHouse x = new IssueHouse();
        for (int a = 1; a <= 5; a++) {
            Play.startInVain(x, 7, 0, 1, 2, 0);
        }
        x.start(0);
        x.deliver(0);
        x.deliver(4);
        check.due("issuer(0, 6)", x.issuer(0, 6), 1);
        x.crash(0);
        Play.clear(x);
        x.start(0);
        check.due("the next ballot", x.letter(0, 3), 16);
        check.due("issuer(0, 6)", x.issuer(0, 6), 1);
    }

    private static void keepsTheClock(Check check) {
        IssueHouse x = new IssueHouse();
        x.clock(0, 1000);
        x.crash(0);
        Play.start(x, 0);
        check.due("issuer(0, 4)", x.issuer(0, 4), 60999);
    }
}

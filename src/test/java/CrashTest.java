/** Promise 5. */
public final class CrashTest {
    public static void main(String[] args) {
        Check check = new Check();
        wrongInputs(check);
        endsReadiness(check);
        endsAnAttempt(check);
        forgetsNumbersButNotA(check);
        keepsTheClock(check);
        noSuchIssuer(check);
        ofOneAtNothing(check);
        whilePreparing(check);
        whileProlonging(check);
        lettersStay(check);
        givesAnewWithTheSameClock(check);
        check.end();
    }

    private static void wrongInputs(Check check) {
        IssueHouse x = new IssueHouse();
        check.outOfBounds("crash(-1)", () -> x.crash(-1));
        check.outOfBounds("crash(8)", () -> x.crash(8));
        x.crash(7);
        check.due("issuer(7, 6)", x.issuer(7, 6), 0);
    }

    private static void endsReadiness(Check check) {
        IssueHouse x = Play.readyAt(1000);
        x.next(0);
        x.crash(0);
        long[] due = {0, 0, -1, -1, -1, -1, 0, 1};
        for (int what = 0; what < 8; what++) {
            check.due("issuer(0, " + what + ")", x.issuer(0, what), due[what]);
        }
        check.due("next(0)", x.next(0), 0);
        check.badState("prolong(0)", () -> x.prolong(0));
        check.due("seat(0, 0), of which the nodes know", x.seat(0, 0), 0);
        Play.start(x, 0);
        check.due("issuer(0, 2)", x.issuer(0, 2), 0);
        check.due("issuer(0, 3)", x.issuer(0, 3), 2);
        check.due("issuer(0, 4)", x.issuer(0, 4), 120999);
        check.due("issuer(0, 5)", x.issuer(0, 5), -1);
        check.due("issuer(0, 7)", x.issuer(0, 7), 1);
    }

    private static void endsAnAttempt(Check check) {
        IssueHouse x = new IssueHouse();
        x.start(0);
        Play.promises(x, 0, 1, 2);
        Play.accept(x, 0, 1, 2);
        x.crash(0);
        check.due("issuer(0, 1)", x.issuer(0, 1), 0);
        check.due("issuer(0, 6), it did not fail", x.issuer(0, 6), 0);
        check.due("letters()", x.letters(), 7);
        for (int j = 0; j < 3; j++) {
            check.due("deliver of a late YES", x.deliver(4), 0);
        }
        check.due("issuer(0, 0)", x.issuer(0, 0), 0);
    }

    private static void forgetsNumbersButNotA(Check check) {
        IssueHouse x = new IssueHouse();
        for (int a = 1; a <= 5; a++) {
            Play.startInVain(x, 7, 0, 1, 2, 0);
        }
        x.start(0);
        x.deliver(0);
        x.deliver(4);
        check.due("issuer(0, 6)", x.issuer(0, 6), 1);
        x.crash(0);
        Play.clear(x);
        x.start(0);
        check.due("the next ballot", x.letter(0, 3), 16);
        check.due("issuer(0, 6)", x.issuer(0, 6), 1);
    }

    private static void keepsTheClock(Check check) {
        IssueHouse x = new IssueHouse();
        x.clock(0, 1000);
        x.crash(0);
        Play.start(x, 0);
        check.due("issuer(0, 4)", x.issuer(0, 4), 60999);
    }

    /** "IndexOutOfBoundsException likewise"; issuers 0 and 7 are the first and the last. */
    private static void noSuchIssuer(Check check) {
        IssueHouse x = new IssueHouse();
        check.outOfBounds("crash(least)", () -> x.crash(Integer.MIN_VALUE));
        check.outOfBounds("crash(greatest)", () -> x.crash(Integer.MAX_VALUE));
        for (int i = 0; i < 8; i++) {
            x.start(i);
        }
        x.crash(0);
        x.crash(7);
        for (int i = 0; i < 8; i++) {
            check.due("issuer(" + i + ", 1)", x.issuer(i, 1), i == 0 || i == 7 ? 0 : 1);
        }
    }

    /** One that is not ready, at no attempt and knows of no NUMBERS has nothing to lose. */
    private static void ofOneAtNothing(Check check) {
        Same.answers(check, "crash(3) of a new object", 0, x -> { }, Same.call(x -> x.crash(3)));
        Same.answers(check, "crash(2) in the midst", 0, Play::busy, Same.call(x -> x.crash(2)));
        Same.answers(check, "a second crash(0)", 0, x -> {
            Play.busy(x);
            x.crash(0);
        }, Same.call(x -> x.crash(0)));
    }

    /** "at no attempt": PROMISE and NO of the attempt come to nothing then. */
    private static void whilePreparing(Check check) {
        IssueHouse x = new IssueHouse();
        x.start(0);
        x.twin(0);
        for (int n = 0; n < 3; n++) {
            x.deliver(0);
        }
        x.deliver(2);
        check.due("the answer to the twin", x.letter(5, 0), Play.NO);
        x.crash(0);
        check.due("issuer(0, 1)", x.issuer(0, 1), 0);
        for (int n = 0; n < 3; n++) {
            check.due("late PROMISE", x.letter(2, 0), Play.PROMISE);
            check.due("deliver of a late PROMISE", x.deliver(2), 0);
        }
        check.due("deliver of a late NO", x.deliver(2), 0);
        check.due("issuer(0, 1)", x.issuer(0, 1), 0);
        check.due("issuer(0, 6)", x.issuer(0, 6), 0);
    }

    /** "It is not ready and at no attempt": both, when it was both. */
    private static void whileProlonging(Check check) {
        IssueHouse x = new IssueHouse();
        Play.prolonging(x);
        x.crash(0);
        check.due("issuer(0, 0)", x.issuer(0, 0), 0);
        check.due("issuer(0, 1)", x.issuer(0, 1), 0);
        check.due("deliver of the third PROMISE", x.deliver(2), 0);
        IssueHouse y = new IssueHouse();
        Play.prolongingFar(y);
        y.crash(0);
        check.due("issuer(0, 0)", y.issuer(0, 0), 0);
        check.due("deliver of the third YES", y.deliver(4), 0);
        check.due("issuer(0, 0)", y.issuer(0, 0), 0);
        check.due("issuer(0, 5)", y.issuer(0, 5), -1);
        check.due("issuer(0, 7)", y.issuer(0, 7), 10);
        Play.clear(y);
        y.start(0);
        check.due("the ballot, a going on", y.letter(0, 3), 24);
    }

    private static void lettersStay(Check check) {
        IssueHouse x = new IssueHouse();
        Play.crowded(x, 90);
        for (int i = 0; i < 8; i++) {
            x.crash(i);
        }
        check.due("letters()", x.letters(), 90);
        check.due("letter(89, 0)", x.letter(89, 0), x.letter(89 % Play.BUSY_LETTERS, 0));
    }

    /** "its clock stays", and what it gave is forgotten with its span, so that no number comes twice. */
    private static void givesAnewWithTheSameClock(Check check) {
        IssueHouse x = Play.readyAt(1000);
        x.clock(0, 60000);
        x.batch(0, 7);
        x.crash(0);
        Play.start(x, 0);
        check.due("issuer(0, 4), behind the mark", x.issuer(0, 4), 120999);
        check.due("next(0), the clock being 60000", x.next(0), Play.number(61000, 0, 0));
    }
}

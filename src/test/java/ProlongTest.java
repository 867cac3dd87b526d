/** Promise 4. */
public final class ProlongTest {
    public static void main(String[] args) {
        Check check = new Check();
        wrongInputs(check);
        refusedWithoutRoom(check);
        sendsPrepare(check);
        keepsSeatAndTerm(check);
        keepsSeatThoughItIsTheHolderOfALowerOne(check);
        givesMeanwhile(check);
        beginsAtTheClockIfThatIsLater(check);
        staysReadyWhenItFails(check);
        failsAtTheEndOfTime(check);
        noSuchIssuer(check);
        roomForJustFive(check);
        behindTheMark(check);
        everyIssuerMayProlong(check);
        numbersHoldForProlongingToo(check);
        check.end();
    }

    private static void wrongInputs(Check check) {
        IssueHouse x = new IssueHouse();
        check.outOfBounds("prolong(-1)", () -> x.prolong(-1));
        check.outOfBounds("prolong(8)", () -> x.prolong(8));
        check.badState("prolong(0) when not ready", () -> x.prolong(0));
        x.start(0);
        check.badState("prolong(0) while starting", () -> x.prolong(0));
        check.due("letters()", x.letters(), 5);
    }

    private static void refusedWithoutRoom(Check check) {
        IssueHouse x = Play.readyAt(0);
        x.start(1);
        Play.fill(x, 0, 86);
        check.badState("prolong(0) with 86 letters", () -> x.prolong(0));
        check.due("issuer(0, 1)", x.issuer(0, 1), 0);
        x.lose(0);
        x.prolong(0);
        check.due("letters()", x.letters(), 90);
        check.due("the ballot, the refused prolong being no attempt", x.letter(89, 3), 16);
    }

    private static void sendsPrepare(Check check) {
        IssueHouse x = Play.readyAt(0);
        x.prolong(0);
        check.due("letters()", x.letters(), 5);
        check.due("letter(4, 0)", x.letter(4, 0), Play.PREPARE);
        check.due("letter(4, 2)", x.letter(4, 2), 4);
        check.due("letter(4, 3)", x.letter(4, 3), 16);
        check.due("issuer(0, 0)", x.issuer(0, 0), 1);
        check.due("issuer(0, 1)", x.issuer(0, 1), 1);
        check.badState("prolong(0) while prolonging", () -> x.prolong(0));
    }

    private static void keepsSeatAndTerm(Check check) {
        IssueHouse x = new IssueHouse();
        Play.start(x, 0);
        Play.start(x, 1);
        x.clock(1, 55001);
        check.due("next(1)", x.next(1), Play.number(55001, 1, 0));
        Play.prolong(x, 1);
        check.due("issuer(1, 2)", x.issuer(1, 2), 1);
        check.due("issuer(1, 3)", x.issuer(1, 3), 1);
        check.due("issuer(1, 4)", x.issuer(1, 4), 120000);
        check.due("issuer(1, 5)", x.issuer(1, 5), -1);
        check.due("seat(1, 1)", x.seat(1, 1), 1);
        check.due("seat(1, 2)", x.seat(1, 2), 120000);
        check.due("next(1)", x.next(1), Play.number(60001, 1, 0));
        check.due("issuer(0, 4)", x.issuer(0, 4), 60000);
    }

    private static void keepsSeatThoughItIsTheHolderOfALowerOne(Check check) {
        IssueHouse x = new IssueHouse();
        Play.startInVain(x, 0, 0, 1, 2, 0);
        Play.startInVain(x, 1, 1, 2, 3, 1);
        Play.startWith(x, 0, 1, 2, 3);
        check.due("issuer(0, 2), seat 0 being held by issuer 1", x.issuer(0, 2), 1);
        Play.prolongWith(x, 0, 0, 2, 3);
        check.due("issuer(0, 2), seat 0 being its own at node 0", x.issuer(0, 2), 1);
        check.due("issuer(0, 3)", x.issuer(0, 3), 1);
        check.due("issuer(0, 4)", x.issuer(0, 4), 120000);
    }

    private static void givesMeanwhile(Check check) {
        IssueHouse x = Play.readyAt(1000);
        check.due("next(0)", x.next(0), Play.number(1000, 0, 0));
        x.prolong(0);
        check.due("next(0) while preparing", x.next(0), Play.number(1000, 0, 1));
        Play.promises(x, 0, 1, 2);
        check.due("issuer(0, 1)", x.issuer(0, 1), 2);
        check.due("issuer(0, 4) while accepting", x.issuer(0, 4), 60999);
        check.due("next(0) while accepting", x.next(0), Play.number(1000, 0, 2));
        Play.accept(x, 0, 1, 2);
        x.deliver(4);
        x.deliver(4);
        check.due("issuer(0, 4) before the third YES", x.issuer(0, 4), 60999);
        x.deliver(4);
        check.due("issuer(0, 4) behind the third YES", x.issuer(0, 4), 120999);
        check.due("issuer(0, 1)", x.issuer(0, 1), 0);
        check.due("next(0), the new span being too far ahead", x.next(0), 0);
    }

    private static void beginsAtTheClockIfThatIsLater(Check check) {
        IssueHouse x = Play.readyAt(1000);
        x.clock(0, 61001);
        Play.prolong(x, 0);
        check.due("issuer(0, 4)", x.issuer(0, 4), 121000);
        x.clock(0, 121000);
        Play.prolong(x, 0);
        check.due("issuer(0, 4) with the clock at the mark", x.issuer(0, 4), 181000);
    }

    private static void staysReadyWhenItFails(Check check) {
        IssueHouse x = Play.readyAt(1000);
        Play.startInVain(x, 7, 0, 1, 2, 0);
        x.start(7);
        x.deliver(0);
        x.crash(7);
        Play.clear(x);
        x.prolong(0);
        x.deliver(0);
        x.deliver(4);
        check.due("issuer(0, 0)", x.issuer(0, 0), 1);
        check.due("issuer(0, 1)", x.issuer(0, 1), 0);
        check.due("issuer(0, 4)", x.issuer(0, 4), 60999);
        check.due("issuer(0, 6)", x.issuer(0, 6), 1);
        check.due("next(0)", x.next(0), Play.number(1000, 0, 0));
        Play.clear(x);
        x.prolong(0);
        check.due("the next ballot", x.letter(0, 3), 24);
    }

    private static void failsAtTheEndOfTime(Check check) {
        IssueHouse x = Play.readyAt(Play.LATEST - 119998);
        x.prolong(0);
        x.deliver(0);
        x.deliver(0);
        x.deliver(0);
        x.deliver(2);
        x.deliver(2);
        check.due("deliver of the third PROMISE", x.deliver(2), 0);
        check.due("issuer(0, 0)", x.issuer(0, 0), 1);
        check.due("issuer(0, 4)", x.issuer(0, 4), Play.LATEST - 59999);
        check.due("issuer(0, 6)", x.issuer(0, 6), 1);
        IssueHouse y = Play.readyAt(Play.LATEST - 119999);
        Play.prolong(y, 0);
        check.due("issuer(0, 4) one earlier", y.issuer(0, 4), Play.LATEST);
    }

    /** "IndexOutOfBoundsException likewise": both ends, and before all else that is wrong. */
    private static void noSuchIssuer(Check check) {
        IssueHouse x = Play.readyAt(0);
        check.outOfBounds("prolong(least)", () -> x.prolong(Integer.MIN_VALUE));
        check.outOfBounds("prolong(greatest)", () -> x.prolong(Integer.MAX_VALUE));
        x.start(1);
        Play.fill(x, 0, 90);
        check.outOfBounds("prolong(-1) without room", () -> x.prolong(-1));
        check.outOfBounds("prolong(8) without room", () -> x.prolong(8));
    }

    private static void everyIssuerMayProlong(Check check) {
        IssueHouse x = new IssueHouse();
        for (int i = 0; i < 8; i++) {
            Play.start(x, i);
        }
        for (int i = 0; i < 8; i++) {
            x.prolong(i);
            check.due("issuer(" + i + ", 0)", x.issuer(i, 0), 1);
            check.due("issuer(" + i + ", 1)", x.issuer(i, 1), 1);
            check.due("ballot", x.letter(5 * i, 3), 16 + i);
        }
    }

    /** "or there would be more than 90 letters": with 85 there are 90 then, with 86 to 90 more. */
    private static void roomForJustFive(Check check) {
        for (int letters = 84; letters <= 90; letters++) {
            IssueHouse x = Play.readyAt(0);
            x.start(1);
            Play.fill(x, 0, letters);
            if (letters <= 85) {
                x.prolong(0);
                check.due("letters()", x.letters(), letters + 5);
                check.due("issuer(0, 1)", x.issuer(0, 1), 1);
                continue;
            }
            check.badState("prolong(0) with " + letters, () -> x.prolong(0));
            check.due("letters()", x.letters(), letters);
            check.due("issuer(0, 1)", x.issuer(0, 1), 0);
            check.due("issuer(0, 0)", x.issuer(0, 0), 1);
        }
    }

    /** "begins at its clock, or one above that row's mark, whichever is later", the mark being 60999. */
    private static void behindTheMark(Check check) {
        long[] clocks = {0, 60998, 60999, 61000, 61001};
        long[] firsts = {61000, 61000, 61000, 61000, 61001};
        for (int j = 0; j < clocks.length; j++) {
            IssueHouse x = Play.readyAt(1000);
            x.clock(0, clocks[j]);
            Play.prolong(x, 0);
            check.due("issuer(0, 4) with the clock at " + clocks[j], x.issuer(0, 4), firsts[j] + 59999);
            x.clock(0, firsts[j] - 5000);
            check.due("next(0) at the span's first", x.next(0), Play.number(firsts[j], 0, 0));
        }
    }

    /** A NO while accepting makes a PROLONG fail too, and its promised number counts for the next one. */
    private static void numbersHoldForProlongingToo(Check check) {
        IssueHouse x = Play.readyAt(1000);
        Play.skip(x, 7, 4);
        x.prolong(0);
        Play.promises(x, 0, 1, 2);
        x.start(7);
        x.deliver(7);
        x.deliver(2);
        check.due("the answer to ACCEPT", x.letter(11, 0), Play.NO);
        check.due("its promised number", x.letter(11, 5), 47);
        check.due("issuer(0, 1)", x.issuer(0, 1), 2);
        x.deliver(11);
        check.due("issuer(0, 1)", x.issuer(0, 1), 0);
        check.due("issuer(0, 0)", x.issuer(0, 0), 1);
        check.due("issuer(0, 4)", x.issuer(0, 4), 60999);
        check.due("issuer(0, 6)", x.issuer(0, 6), 1);
        Play.clear(x);
        x.prolong(0);
        check.due("the next ballot", x.letter(0, 3), 48);
    }
}

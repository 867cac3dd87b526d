/** Promise 2. */
public final class ClockTest {
    public static void main(String[] args) {
        Check check = new Check();
        wrongInputs(check);
        eachIssuerHasItsOwn(check);
        jumps(check);
        refusedTimeChangesNothing(check);
        countsWhenTheThirdPromiseComes(check);
        everyIssuerTakesTheFirstAndTheLastTime(check);
        theLastTimeIsTheClock(check);
        theFirstTimeIsTheClock(check);
        check.end();
    }

    private static void wrongInputs(Check check) {
        IssueHouse x = new IssueHouse();
        check.outOfBounds("clock(-1, 0)", () -> x.clock(-1, 0));
        check.outOfBounds("clock(8, 0)", () -> x.clock(8, 0));
        check.outOfBounds("clock(least, 0)", () -> x.clock(Integer.MIN_VALUE, 0));
        check.outOfBounds("clock(greatest, 0)", () -> x.clock(Integer.MAX_VALUE, 0));
        check.outOfBounds("clock(8, -1)", () -> x.clock(8, -1));
        check.badArgument("clock(0, -1)", () -> x.clock(0, -1));
        check.badArgument("clock(7, 2^41)", () -> x.clock(7, Play.LATEST + 1));
        check.badArgument("clock(0, least)", () -> x.clock(0, Long.MIN_VALUE));
        check.badArgument("clock(0, greatest)", () -> x.clock(0, Long.MAX_VALUE));
        x.clock(0, 0);
        x.clock(7, Play.LATEST);
    }

    private static void eachIssuerHasItsOwn(Check check) {
        IssueHouse x = new IssueHouse();
        x.clock(0, 1000);
        x.clock(7, 2000);
        Play.start(x, 0);
        Play.start(x, 3);
        Play.start(x, 7);
        check.due("span of issuer 7", x.issuer(7, 4), 61999);
        check.due("span of issuer 0", x.issuer(0, 4), 60999);
        check.due("span of issuer 3", x.issuer(3, 4), 60000);
    }

    private static void jumps(Check check) {
        IssueHouse x = Play.readyAt(1000);
        x.clock(0, 3000);
        check.due("next(0) at 3000", x.next(0), Play.number(3000, 0, 0));
        x.clock(0, 1000);
        check.due("next(0) back at 1000", x.next(0), Play.number(3000, 0, 1));
        x.clock(0, 4000);
        check.due("next(0) at 4000", x.next(0), Play.number(4000, 0, 0));
    }

    private static void refusedTimeChangesNothing(Check check) {
        IssueHouse x = Play.readyAt(1000);
        check.badArgument("clock(0, -1)", () -> x.clock(0, -1));
        check.due("next(0)", x.next(0), Play.number(1000, 0, 0));
    }

    private static void countsWhenTheThirdPromiseComes(Check check) {
        IssueHouse x = new IssueHouse();
        x.start(0);
        x.deliver(0);
        x.deliver(0);
        x.deliver(0);
        x.deliver(2);
        x.deliver(2);
        x.clock(0, 777);
        x.deliver(2);
        x.clock(0, 999);
        Play.accept(x, 0, 1, 2);
        x.deliver(4);
        x.deliver(4);
        x.deliver(4);
        check.due("the span's last time", x.issuer(0, 4), 777 + 59999);
        check.due("next(0)", x.next(0), Play.number(999, 0, 0));
    }

    /** "ISSUERS are 0 .. 7", "a TIME is 0 .. 2^41 - 1": both ends are taken, what lies beside them is not. */
    private static void everyIssuerTakesTheFirstAndTheLastTime(Check check) {
        IssueHouse x = new IssueHouse();
        for (int i = 0; i < 8; i++) {
            int at = i;
            x.clock(at, Play.LATEST);
            check.badArgument("clock(" + at + ", 2^41)", () -> x.clock(at, Play.LATEST + 1));
            x.clock(at, 0);
            check.badArgument("clock(" + at + ", -1)", () -> x.clock(at, -1));
        }
    }

    /** "An issuer's clock becomes t", for the last of all times. */
    private static void theLastTimeIsTheClock(Check check) {
        IssueHouse x = Play.readyAt(Play.LATEST - 59999);
        x.clock(0, Play.LATEST);
        x.next(0);
        check.due("issuer(0, 5)", x.issuer(0, 5), Play.LATEST);
        IssueHouse y = Play.readyAt(Play.LATEST - 59999);
        y.clock(0, Play.LATEST - 1);
        check.badArgument("clock(0, 2^41)", () -> y.clock(0, Play.LATEST + 1));
        y.next(0);
        check.due("issuer(0, 5) behind a refused time", y.issuer(0, 5), Play.LATEST - 1);
    }

    /** "An issuer's clock becomes t", for 0: a number of time 5000 is given then, and one of 5001 is not. */
    private static void theFirstTimeIsTheClock(Check check) {
        IssueHouse x = Play.readyAt(5000);
        x.clock(0, 0);
        check.due("next(0), 5000 ahead", x.next(0), Play.number(5000, 0, 0));
        IssueHouse y = Play.readyAt(5001);
        y.clock(0, 0);
        check.due("next(0), 5001 ahead", y.next(0), 0);
    }
}

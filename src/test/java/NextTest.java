/** Promise 13. */
public final class NextTest {
    public static void main(String[] args) {
        Check check = new Check();
        wrongInputs(check);
        notReady(check);
        firstNumbers(check);
        followsTheClock(check);
        countersRunOver(check);
        notFarAheadOfTheClock(check);
        notBehindTheSpan(check);
        counterBehindTheSpan(check);
        counterFarAhead(check);
        newSpanBeginsAnew(check);
        lateTimesWrapAround(check);
        check.end();
    }

    private static void wrongInputs(Check check) {
        IssueHouse x = Play.readyAt(0);
        check.outOfBounds("next(-1)", () -> x.next(-1));
        check.outOfBounds("next(8)", () -> x.next(8));
    }

    private static void notReady(Check check) {
        IssueHouse x = new IssueHouse();
        check.due("next(0)", x.next(0), 0);
        x.start(0);
        check.due("next(0) while preparing", x.next(0), 0);
        Play.promises(x, 0, 1, 2);
        check.due("next(0) while accepting", x.next(0), 0);
        Play.accept(x, 0, 1, 2);
        x.deliver(4);
        x.deliver(4);
        x.deliver(4);
        check.due("next(0) when ready", x.next(0), Play.number(1, 0, 0));
        check.due("next(1)", x.next(1), 0);
    }

    private static void firstNumbers(Check check) {
        IssueHouse x = new IssueHouse();
        x.clock(1, 1000);
        Play.start(x, 0);
        Play.start(x, 1);
        for (int c = 0; c < 3; c++) {
            check.due("next(0)", x.next(0), Play.number(1, 0, c));
            check.due("next(1)", x.next(1), Play.number(1000, 1, c));
        }
    }

    private static void followsTheClock(Check check) {
        IssueHouse x = Play.readyAt(1000);
        x.next(0);
        x.next(0);
        x.clock(0, 1001);
        check.due("next(0) at 1001", x.next(0), Play.number(1001, 0, 0));
        x.clock(0, 0);
        check.due("next(0) back at 0", x.next(0), Play.number(1001, 0, 1));
    }

    private static void countersRunOver(Check check) {
        IssueHouse x = Play.readyAt(1000);
        x.batch(0, 1023);
        check.due("the last counter", x.next(0), Play.number(1000, 0, 1023));
        check.due("the one behind it", x.next(0), Play.number(1001, 0, 0));
        x.clock(0, 1001);
        check.due("with the clock there", x.next(0), Play.number(1001, 0, 1));
    }

    private static void notFarAheadOfTheClock(Check check) {
        IssueHouse x = Play.readyAt(10000);
        x.clock(0, 5000);
        check.due("next(0) 5000 ahead", x.next(0), Play.number(10000, 0, 0));
        x.clock(0, 4999);
        check.due("next(0) 5001 ahead", x.next(0), 0);
        check.due("issuer(0, 7)", x.issuer(0, 7), 1);
        x.clock(0, 5000);
        check.due("next(0) 5000 ahead again", x.next(0), Play.number(10000, 0, 1));
        x.clock(0, 12000);
        check.due("next(0) at 12000", x.next(0), Play.number(12000, 0, 0));
        x.clock(0, 6999);
        check.due("next(0) 5001 ahead of the last given", x.next(0), 0);
        x.clock(0, 7000);
        check.due("next(0) 5000 ahead of the last given", x.next(0), Play.number(12000, 0, 1));
    }

    private static void notBehindTheSpan(Check check) {
        IssueHouse x = Play.readyAt(1000);
        x.clock(0, 61000);
        check.due("next(0) behind the span", x.next(0), 0);
        check.due("issuer(0, 5)", x.issuer(0, 5), -1);
        x.clock(0, 60999);
        check.due("next(0) at the span's last", x.next(0), Play.number(60999, 0, 0));
        x.clock(0, 61000);
        check.due("next(0) behind the span again", x.next(0), 0);
        x.clock(0, 60000);
        check.due("next(0) back in it", x.next(0), Play.number(60999, 0, 1));
    }

    private static void counterBehindTheSpan(Check check) {
        IssueHouse x = Play.readyAt(1000);
        x.clock(0, 60999);
        x.batch(0, 1024);
        check.due("next(0) behind the last counter of the span", x.next(0), 0);
        check.due("issuer(0, 5)", x.issuer(0, 5), 60999);
        check.due("issuer(0, 7)", x.issuer(0, 7), 1024);
        check.due("next(0) again", x.next(0), 0);
    }

    private static void counterFarAhead(Check check) {
        IssueHouse x = Play.readyAt(10000);
        x.batch(0, 1024);
        x.clock(0, 5000);
        check.due("next(0), the time behind being 5001 ahead", x.next(0), 0);
        x.clock(0, 5001);
        check.due("next(0), the time behind being 5000 ahead", x.next(0), Play.number(10001, 0, 0));
    }

    private static void newSpanBeginsAnew(Check check) {
        IssueHouse x = Play.readyAt(1000);
        x.next(0);
        Play.prolong(x, 0);
        x.clock(0, 56000);
        check.due("next(0) at the new span's first", x.next(0), Play.number(61000, 0, 0));
        x.crash(0);
        Play.start(x, 0);
        check.due("next(0) with the span behind", x.next(0), 0);
        x.clock(0, 116000);
        check.due("next(0) at its first", x.next(0), Play.number(121000, 0, 0));
        check.due("issuer(0, 7)", x.issuer(0, 7), 3);
    }

    /** From 2^40 on the number, of 64 bits, is a negative long. */
    private static void lateTimesWrapAround(Check check) {
        IssueHouse x = Play.readyAt((1L << 40) - 1);
        x.batch(0, 1023);
        check.due("the last one above 0", x.next(0), Long.MAX_VALUE - 0x7ffc00L);
        check.due("the one behind it", x.next(0), Long.MIN_VALUE);
        IssueHouse y = Play.readyAt(Play.LATEST - 59999);
        y.clock(0, Play.LATEST);
        check.due("at the latest time", y.next(0), -8388608L);
    }
}

/** Promise 14. */
public final class BatchTest {
    public static void main(String[] args) {
        Check check = new Check();
        wrongInputs(check);
        ofOneTime(check);
        beginsBehindWhenItDoesNotFit(check);
        notGiven(check);
        asNextWouldDo(check);
        check.end();
    }

    private static void wrongInputs(Check check) {
        IssueHouse x = new IssueHouse();
        check.outOfBounds("batch(-1, 1)", () -> x.batch(-1, 1));
        check.outOfBounds("batch(8, 1)", () -> x.batch(8, 1));
        check.outOfBounds("batch(8, 0)", () -> x.batch(8, 0));
        check.badArgument("batch(0, 0)", () -> x.batch(0, 0));
        check.badArgument("batch(0, -1)", () -> x.batch(0, -1));
        check.badArgument("batch(0, 1025)", () -> x.batch(0, 1025));
        check.badArgument("batch(0, greatest)", () -> x.batch(0, Integer.MAX_VALUE));
        check.badArgument("batch(0, least)", () -> x.batch(0, Integer.MIN_VALUE));
        check.due("batch(0, 1) when not ready", x.batch(0, 1), 0);
        IssueHouse y = Play.readyAt(1000);
        check.badArgument("batch(0, 1025) when ready", () -> y.batch(0, 1025));
        check.due("issuer(0, 7)", y.issuer(0, 7), 0);
    }

    private static void ofOneTime(Check check) {
        IssueHouse x = Play.readyAt(1000);
        check.due("batch(0, 10)", x.batch(0, 10), Play.number(1000, 0, 0));
        check.due("batch(0, 5)", x.batch(0, 5), Play.number(1000, 0, 10));
        check.due("next(0)", x.next(0), Play.number(1000, 0, 15));
        check.due("batch(0, 1008)", x.batch(0, 1008), Play.number(1000, 0, 16));
        check.due("next(0)", x.next(0), Play.number(1001, 0, 0));
        check.due("issuer(0, 7)", x.issuer(0, 7), 1025);
        Play.start(x, 1);
        check.due("batch(1, 1024)", x.batch(1, 1024), Play.number(1, 1, 0));
    }

    private static void beginsBehindWhenItDoesNotFit(Check check) {
        IssueHouse x = Play.readyAt(1000);
        x.next(0);
        check.due("batch(0, 1024)", x.batch(0, 1024), Play.number(1001, 0, 0));
        check.due("batch(0, 1024) behind a full time", x.batch(0, 1024), Play.number(1002, 0, 0));
        check.due("batch(0, 1000)", x.batch(0, 1000), Play.number(1003, 0, 0));
        check.due("batch(0, 25)", x.batch(0, 25), Play.number(1004, 0, 0));
        check.due("next(0)", x.next(0), Play.number(1004, 0, 25));
        check.due("issuer(0, 5)", x.issuer(0, 5), 1004);
        check.due("issuer(0, 7)", x.issuer(0, 7), 1 + 1024 + 1024 + 1000 + 25 + 1);
        x.clock(0, 1005);
        check.due("batch(0, 1024) at the clock", x.batch(0, 1024), Play.number(1005, 0, 0));
    }

    private static void notGiven(Check check) {
        IssueHouse x = Play.readyAt(1000);
        x.clock(0, 60999);
        x.batch(0, 1000);
        check.due("batch(0, 25) behind the span", x.batch(0, 25), 0);
        check.due("issuer(0, 5)", x.issuer(0, 5), 60999);
        check.due("issuer(0, 7)", x.issuer(0, 7), 1000);
        check.due("batch(0, 24) within it", x.batch(0, 24), Play.number(60999, 0, 1000));
        IssueHouse y = Play.readyAt(10000);
        y.next(0);
        y.clock(0, 5000);
        check.due("batch(0, 1024) 5001 ahead", y.batch(0, 1024), 0);
        check.due("batch(0, 1023) 5000 ahead", y.batch(0, 1023), Play.number(10000, 0, 1));
        y.clock(0, 5001);
        check.due("batch(0, 1024) 5000 ahead", y.batch(0, 1024), Play.number(10001, 0, 0));
    }

    private static void asNextWouldDo(Check check) {
        IssueHouse x = Play.readyAt(1000);
        IssueHouse y = Play.readyAt(1000);
        for (int n = 1; n <= 15; n++) {
            long first = x.batch(0, n);
            for (int j = 0; j < n; j++) {
                check.due("next(0) as in batch(0, " + n + ")", y.next(0), first + j);
            }
        }
        check.due("issuer(0, 7)", x.issuer(0, 7), y.issuer(0, 7));
        check.due("issuer(0, 5)", x.issuer(0, 5), y.issuer(0, 5));
    }
}

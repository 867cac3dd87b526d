/** Promise 12. */
public final class IssuerTest {
    public static void main(String[] args) {
        Check check = new Check();
        wrongInputs(check);
        throughAnAttempt(check);
        whatItGave(check);
        failures(check);
        check.end();
    }

    private static void wrongInputs(Check check) {
        IssueHouse x = new IssueHouse();
        check.outOfBounds("issuer(-1, 0)", () -> x.issuer(-1, 0));
        check.outOfBounds("issuer(8, 0)", () -> x.issuer(8, 0));
        check.outOfBounds("issuer(0, -1)", () -> x.issuer(0, -1));
        check.outOfBounds("issuer(0, 8)", () -> x.issuer(0, 8));
        check.outOfBounds("issuer(8, 8)", () -> x.issuer(8, 8));
        check.due("issuer(7, 7)", x.issuer(7, 7), 0);
    }

    private static void throughAnAttempt(Check check) {
        IssueHouse x = new IssueHouse();
        Play.start(x, 0);
        x.clock(1, 2000);
        issuerIs(check, x, 0, 0, -1, -1, -1, -1, 0, 0);
        x.start(1);
        issuerIs(check, x, 0, 1, -1, -1, -1, -1, 0, 0);
        Play.promises(x, 0, 1, 2);
        issuerIs(check, x, 0, 2, -1, -1, -1, -1, 0, 0);
        Play.accept(x, 0, 1, 2);
        x.deliver(4);
        x.deliver(4);
        issuerIs(check, x, 0, 2, -1, -1, -1, -1, 0, 0);
        x.deliver(4);
        issuerIs(check, x, 1, 0, 1, 1, 61999, -1, 0, 0);
        x.next(1);
        issuerIs(check, x, 1, 0, 1, 1, 61999, 2000, 0, 1);
        x.prolong(1);
        issuerIs(check, x, 1, 1, 1, 1, 61999, 2000, 0, 1);
        x.crash(1);
        issuerIs(check, x, 0, 0, -1, -1, -1, -1, 0, 1);
    }

    private static void issuerIs(Check check, IssueHouse x, long... due) {
        for (int what = 0; what < 8; what++) {
            check.due("issuer(1, " + what + ")", x.issuer(1, what), due[what]);
        }
    }

    private static void whatItGave(Check check) {
        IssueHouse x = Play.readyAt(1000);
        x.next(0);
        x.batch(0, 1024);
        check.due("issuer(0, 5)", x.issuer(0, 5), 1001);
        check.due("issuer(0, 7)", x.issuer(0, 7), 1025);
        x.clock(0, 61000);
        check.due("next(0) behind the span", x.next(0), 0);
        check.due("issuer(0, 5)", x.issuer(0, 5), 1001);
        check.due("issuer(0, 7)", x.issuer(0, 7), 1025);
        Play.prolong(x, 0);
        check.due("issuer(0, 5) with a new span", x.issuer(0, 5), -1);
        check.due("issuer(0, 7) with a new span", x.issuer(0, 7), 1025);
        x.batch(0, 10);
        check.due("issuer(0, 5)", x.issuer(0, 5), 61000);
        check.due("issuer(0, 7)", x.issuer(0, 7), 1035);
    }

    private static void failures(Check check) {
        IssueHouse x = new IssueHouse();
        for (int f = 1; f <= 3; f++) {
            x.start(0);
            x.twin(0);
            x.deliver(0);
            x.deliver(4);
            x.deliver(5);
            check.due("issuer(0, 6)", x.issuer(0, 6), f);
            check.due("issuer(1, 6)", x.issuer(1, 6), 0);
            Play.clear(x);
        }
        x.crash(0);
        check.due("issuer(0, 6) behind a crash", x.issuer(0, 6), 3);
    }
}

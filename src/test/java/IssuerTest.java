/** Promise 12. */
public final class IssuerTest {
    public static void main(String[] args) {
        Check check = new Check();
        wrongInputs(check);
        throughAnAttempt(check);
        whatItGave(check);
        failures(check);
        noSuchIssuerOrWhat(check);
        notReadyOrGaveNone(check);
        failedForEveryReason(check);
        givenInAll(check);
        lastTimeWithThisSpan(check);
        check.end();
    }

    private static void wrongInputs(Check check) {
        IssueHouse x = new IssueHouse();
        check.outOfBounds("issuer(-1, 0)", () -> x.issuer(-1, 0));
        check.outOfBounds("issuer(8, 0)", () -> x.issuer(8, 0));
        check.outOfBounds("issuer(0, -1)", () -> x.issuer(0, -1));
        check.outOfBounds("issuer(0, 8)", () -> x.issuer(0, 8));
        check.outOfBounds("issuer(8, 8)", () -> x.issuer(8, 8));
        check.due("issuer(7, 7)", x.issuer(7, 7), 0);
    }

    private static void throughAnAttempt(Check check) {
        IssueHouse x = new IssueHouse();
        Play.start(x, 0);
        x.clock(1, 2000);
        check.issuer(x, 1, 0, 0, -1, -1, -1, -1, 0, 0);
        x.start(1);
        check.issuer(x, 1, 0, 1, -1, -1, -1, -1, 0, 0);
        Play.promises(x, 0, 1, 2);
        check.issuer(x, 1, 0, 2, -1, -1, -1, -1, 0, 0);
        Play.accept(x, 0, 1, 2);
        x.deliver(4);
        x.deliver(4);
        check.issuer(x, 1, 0, 2, -1, -1, -1, -1, 0, 0);
        x.deliver(4);
        check.issuer(x, 1, 1, 0, 1, 1, 61999, -1, 0, 0);
        x.next(1);
        check.issuer(x, 1, 1, 0, 1, 1, 61999, 2000, 0, 1);
        x.prolong(1);
        check.issuer(x, 1, 1, 1, 1, 1, 61999, 2000, 0, 1);
        x.crash(1);
        check.issuer(x, 1, 0, 0, -1, -1, -1, -1, 0, 1);
    }

    private static void whatItGave(Check check) {
        IssueHouse x = Play.readyAt(1000);
        x.next(0);
        x.batch(0, 1024);
        check.due("issuer(0, 5)", x.issuer(0, 5), 1001);
        check.due("issuer(0, 7)", x.issuer(0, 7), 1025);
        x.clock(0, 61000);
        check.due("next(0) behind the span", x.next(0), 0);
        check.due("issuer(0, 5)", x.issuer(0, 5), 1001);
        check.due("issuer(0, 7)", x.issuer(0, 7), 1025);
        Play.prolong(x, 0);
        check.due("issuer(0, 5) with a new span", x.issuer(0, 5), -1);
        check.due("issuer(0, 7) with a new span", x.issuer(0, 7), 1025);
        x.batch(0, 10);
        check.due("issuer(0, 5)", x.issuer(0, 5), 61000);
        check.due("issuer(0, 7)", x.issuer(0, 7), 1035);
    }

    private static void failures(Check check) {
        IssueHouse x = new IssueHouse();
        for (int f = 1; f <= 3; f++) {
            x.start(0);
            x.twin(0);
            x.deliver(0);
            x.deliver(4);
            x.deliver(5);
            check.due("issuer(0, 6)", x.issuer(0, 6), f);
            check.due("issuer(1, 6)", x.issuer(1, 6), 0);
            Play.clear(x);
        }
        x.crash(0);
        check.due("issuer(0, 6) behind a crash", x.issuer(0, 6), 3);
    }

    /** "IndexOutOfBoundsException, when there is none such, or what": both ends of both. */
    private static void noSuchIssuerOrWhat(Check check) {
        IssueHouse x = Play.readyAt(1000);
        for (int i : new int[] {Integer.MIN_VALUE, -1, 8, Integer.MAX_VALUE}) {
            for (int what = 0; what < 8; what++) {
                int w = what;
                check.outOfBounds("issuer(" + i + ", " + w + ")", () -> x.issuer(i, w));
            }
        }
        for (int what : new int[] {Integer.MIN_VALUE, -1, 8, Integer.MAX_VALUE}) {
            check.outOfBounds("issuer(0, " + what + ")", () -> x.issuer(0, what));
            check.outOfBounds("issuer(7, " + what + ")", () -> x.issuer(7, what));
        }
        check.issuer(x, 0, 1, 0, 0, 1, 60999, -1, 0, 0);
        check.issuer(x, 7, 0, 0, -1, -1, -1, -1, 0, 0);
    }

    /** "NONE when it is not ready, or gave none": preparing, accepting, failed, and ready with nothing given. */
    private static void notReadyOrGaveNone(Check check) {
        IssueHouse x = new IssueHouse();
        Play.busy(x);
        check.issuer(x, 0, 1, 0, 0, 1, 69999, 10000, 0, 1);
        check.issuer(x, 1, 0, 0, -1, -1, -1, -1, 1, 0);
        check.issuer(x, 4, 0, 2, -1, -1, -1, -1, 0, 0);
        check.issuer(x, 6, 0, 1, -1, -1, -1, -1, 0, 0);
        x.deliver(Play.BUSY_THIRD_YES);
        check.issuer(x, 4, 1, 0, 1, 1, 73999, -1, 0, 0);
        x.next(4);
        check.issuer(x, 4, 1, 0, 1, 1, 73999, 14000, 0, 1);
    }

    /** "how many attempts failed": by NO, for want of a seat and for want of a span, not by a crash. */
    private static void failedForEveryReason(Check check) {
        IssueHouse x = new IssueHouse();
        Play.withoutASeatFor7(x);
        x.deliver(2);
        check.due("issuer(7, 6) without a seat", x.issuer(7, 6), 1);
        IssueHouse y = new IssueHouse();
        Play.busy(y);
        y.deliver(Play.BUSY_NO);
        check.due("issuer(4, 6) behind NO", y.issuer(4, 6), 1);
        y.clock(6, Play.LATEST);
        y.deliver(Play.BUSY_THIRD_PROMISE);
        check.due("issuer(6, 6) without a span", y.issuer(6, 6), 1);
        y.start(6);
        y.crash(6);
        check.due("issuer(6, 6) behind a crash", y.issuer(6, 6), 1);
    }

    /** "how many numbers it gave in all": over spans, terms and crashes, and each of a batch. */
    private static void givenInAll(Check check) {
        IssueHouse x = Play.readyAt(1000);
        x.batch(0, 1024);
        x.next(0);
        Play.prolong(x, 0);
        check.due("issuer(0, 7) with a new span", x.issuer(0, 7), 1025);
        x.crash(0);
        check.due("issuer(0, 7) behind a crash", x.issuer(0, 7), 1025);
        Play.start(x, 0);
        x.clock(0, 121000);
        x.batch(0, 1);
        check.due("issuer(0, 7) with a new term", x.issuer(0, 7), 1026);
    }

    /** "the last time that it gave with this span": not the clock, and not that of a span before. */
    private static void lastTimeWithThisSpan(Check check) {
        IssueHouse x = Play.readyAt(1000);
        x.next(0);
        x.clock(0, 2000);
        check.due("issuer(0, 5) before the next number", x.issuer(0, 5), 1000);
        x.batch(0, 1024);
        check.due("issuer(0, 5)", x.issuer(0, 5), 2000);
        x.next(0);
        check.due("issuer(0, 5) behind a full time", x.issuer(0, 5), 2001);
        x.crash(0);
        check.due("issuer(0, 5) behind a crash", x.issuer(0, 5), -1);
        Play.start(x, 0);
        check.due("issuer(0, 5) with a new term", x.issuer(0, 5), -1);
    }
}

import java.util.ArrayList;
import java.util.List;

/** Two runs that have come to the same: whatever is called behind them is answered alike. */
final class Same {
    interface Calls {
        void on(IssueHouse x);
    }

    interface Call {
        long on(IssueHouse x);
    }

    private static final int ISSUERS = 8;
    private static final int MOST_DELIVERIES = 110;
    private static final int LOOKS = 5 + 2 * ISSUERS;

    private final IssueHouse x = new IssueHouse();
    private final List<String> answers = new ArrayList<>();

    private Same() {
    }

    /** Each look needs new objects: one object answers 512 calls, and a look changes it. */
    static void runs(Check check, String text, Calls one, Calls other) {
        for (int look = 0; look < LOOKS; look++) {
            List<String> got = answersBehind(one, look);
            List<String> due = answersBehind(other, look);
            if (!got.equals(due)) {
                check.report(text + ": " + firstDifference(got, due));
            }
        }
    }

    /** A call that is refused throws what is due, and the run goes on as if it had not been. */
    static void refuses(Check check, String text, Class<? extends RuntimeException> due, Calls before, Call call) {
        refusedOrNot(check, text, due.getSimpleName(), before, call);
    }

    /** A call that only answers: the run goes on as if it had not been. */
    static void answers(Check check, String text, long due, Calls before, Call call) {
        refusedOrNot(check, text, String.valueOf(due), before, call);
    }

    private static void refusedOrNot(Check check, String text, String due, Calls before, Call call) {
        IssueHouse x = new IssueHouse();
        before.on(x);
        String got = outcome(x, call);
        if (!got.equals(due)) {
            check.report(text + " came to " + got + ", due is " + due);
        }
        runs(check, text + " changed something", y -> {
            before.on(y);
            outcome(y, call);
        }, before);
    }

    private static String outcome(IssueHouse x, Call call) {
        try {
            return String.valueOf(call.on(x));
        } catch (RuntimeException e) {
            return e.getClass().getSimpleName();
        }
    }

    private static String firstDifference(List<String> got, List<String> due) {
        for (int j = 0; j < Math.min(got.size(), due.size()); j++) {
            if (!got.get(j).equals(due.get(j))) {
                return "then " + got.get(j) + ", due is " + due.get(j);
            }
        }
        return "then " + got.size() + " answers, due are " + due.size();
    }

    private static List<String> answersBehind(Calls run, int look) {
        Same same = new Same();
        run.on(same.x);
        same.look(look);
        return same.answers;
    }

    private void look(int look) {
        switch (look) {
            case 0:
                all();
                break;
            case 1:
                letters(0, 45);
                break;
            case 2:
                letters(45, 90);
                break;
            case 3:
                deliver(true);
                all();
                break;
            case 4:
                deliver(false);
                all();
                break;
            default:
                goesOn((look - 5) % ISSUERS, look - 5 >= ISSUERS);
                break;
        }
    }

    private long ask(String text, Call call) {
        String answer = outcome(x, call);
        answers.add(text + " = " + answer);
        return answer.endsWith("Exception") ? -1 : Long.parseLong(answer);
    }

    private void all() {
        ask("letters()", y -> y.letters());
        for (int i = 0; i < ISSUERS; i++) {
            issuer(i);
            for (int what = 0; what < 3; what++) {
                int s = i;
                int w = what;
                ask("seat(" + s + ", " + w + ")", y -> y.seat(s, w));
            }
        }
    }

    private void issuer(int i) {
        for (int what = 0; what < 8; what++) {
            int w = what;
            ask("issuer(" + i + ", " + w + ")", y -> y.issuer(i, w));
        }
    }

    private void letters(int from, int to) {
        int size = x.letters();
        for (int k = from; k < to && k < size; k++) {
            for (int what = 0; what < 6; what++) {
                int at = k;
                int w = what;
                ask("letter(" + at + ", " + w + ")", y -> y.letter(at, w));
            }
        }
    }

    /** A letter that is refused for want of room is lost, so that the next one comes. */
    private void deliver(boolean fromTheFront) {
        int size = x.letters();
        for (int j = 0; j < MOST_DELIVERIES && size > 0; j++) {
            int k = fromTheFront ? 0 : size - 1;
            long sent = ask("deliver(" + k + ")", y -> y.deliver(k));
            if (sent < 0) {
                x.lose(k);
            }
            size += Math.max(0, (int) sent) - 1;
        }
    }

    /**
     * Tells an issuer's clock, a, NUMBERS and what it gave, and the nodes' promised numbers. One that is
     * at an attempt begins no other one before a crash.
     */
    private void goesOn(int i, boolean behindACrash) {
        if (behindACrash) {
            x.crash(i);
        }
        ask("next(" + i + ")", y -> y.next(i));
        ask("batch(" + i + ", 1000)", y -> y.batch(i, 1000));
        Play.clear(x);
        for (int attempt = 0; attempt < 2; attempt++) {
            ask("start(" + i + ")", Same.call(y -> y.start(i)));
            ask("prolong(" + i + ")", Same.call(y -> y.prolong(i)));
            letters(0, 1);
            ask("deliver(0) to node 0", y -> y.deliver(0));
            letters(4, 5);
            deliver(true);
        }
        issuer(i);
        ask("next(" + i + ")", y -> y.next(i));
    }

    /** A call without an answer answers 0 here. */
    static Call call(Calls calls) {
        return y -> {
            calls.on(y);
            return 0;
        };
    }
}

/** Counts and prints the answers that are not as due. */
final class Check {
    private int wrong;

    void due(String call, long got, long want) {
        if (got != want) {
            report(call + " answered " + got + ", due is " + want);
        }
    }

    void letter(IssueHouse x, int k, long... due) {
        for (int what = 0; what < due.length; what++) {
            due("letter(" + k + ", " + what + ")", x.letter(k, what), due[what]);
        }
    }

    void issuer(IssueHouse x, int i, long... due) {
        for (int what = 0; what < due.length; what++) {
            due("issuer(" + i + ", " + what + ")", x.issuer(i, what), due[what]);
        }
    }

    void seat(IssueHouse x, int s, long... due) {
        for (int what = 0; what < due.length; what++) {
            due("seat(" + s + ", " + what + ")", x.seat(s, what), due[what]);
        }
    }

    void outOfBounds(String call, Runnable run) {
        fails(call, IndexOutOfBoundsException.class, run);
    }

    void badArgument(String call, Runnable run) {
        fails(call, IllegalArgumentException.class, run);
    }

    void badState(String call, Runnable run) {
        fails(call, IllegalStateException.class, run);
    }

    private void fails(String call, Class<? extends RuntimeException> want, Runnable run) {
        try {
            run.run();
        } catch (RuntimeException e) {
            if (e.getClass() != want) {
                report(call + " threw " + e.getClass().getSimpleName() + ", due is " + want.getSimpleName());
            }
            return;
        }
        report(call + " threw nothing, due is " + want.getSimpleName());
    }

    void report(String text) {
        wrong++;
        System.out.println(text);
    }

    void end() {
        if (wrong > 0) {
            System.out.println(wrong + " answers are not as due");
            System.exit(1);
        }
    }
}

/** Counts and prints the answers that are not as due. */
final class Check {
    private int wrong;

    void due(String call, long got, long want) {
        if (got != want) {
            report(call + " answered " + got + ", due is " + want);
        }
    }

    void outOfBounds(String call, Runnable run) {
        fails(call, IndexOutOfBoundsException.class, run);
    }

    void badArgument(String call, Runnable run) {
        fails(call, IllegalArgumentException.class, run);
    }

    void badState(String call, Runnable run) {
        fails(call, IllegalStateException.class, run);
    }

    private void fails(String call, Class<? extends RuntimeException> want, Runnable run) {
        try {
            run.run();
        } catch (RuntimeException e) {
            if (e.getClass() != want) {
                report(call + " threw " + e.getClass().getSimpleName() + ", due is " + want.getSimpleName());
            }
            return;
        }
        report(call + " threw nothing, due is " + want.getSimpleName());
    }

    void report(String text) {
        wrong++;
        System.out.println(text);
    }

    void end() {
        if (wrong > 0) {
            System.out.println(wrong + " answers are not as due");
            System.exit(1);
        }
    }
}

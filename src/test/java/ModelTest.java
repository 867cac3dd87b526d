import java.util.HashSet;
import java.util.Random;
import java.util.Set;

/** Runs of calls by chance, always the same ones: the program answers as the model, and no number comes twice. */
public final class ModelTest {
    private static final int RUNS = 3000;
    private static final int CALLS = 512;
    private static final long REFUSED_INDEX = Long.MIN_VALUE + 1;
    private static final long REFUSED_STATE = Long.MIN_VALUE + 2;
    private static final long REFUSED_ARGUMENT = Long.MIN_VALUE + 3;
    private static final long REFUSED_ELSE = Long.MIN_VALUE + 4;

    private interface Call {
        long run();
    }

    private final Check check;
    private final Random random;
    private final boolean orderly;
    private final boolean crowded;
    private final Set<Long> numbers = new HashSet<>();
    private final IssueHouse house = new IssueHouse();
    private final Model model = new Model();
    private int left = CALLS;
    private int granted;
    private int refusedDeliveries;

    private ModelTest(Check check, int seed) {
        this.check = check;
        random = new Random(seed);
        orderly = seed % 3 != 0;
        crowded = seed % 5 == 0;
    }

    public static void main(String[] args) {
        Check check = new Check();
        int granted = 0;
        int refused = 0;
        for (int seed = 1; seed <= RUNS; seed++) {
            ModelTest run = new ModelTest(check, seed);
            while (run.left > 0) {
                run.step();
            }
            granted += run.granted;
            refused += run.refusedDeliveries;
        }
        // Runs in which nothing happens would prove nothing.
        if (granted < RUNS || refused < RUNS / 10) {
            check.report("the runs are too tame: " + granted + " numbers, " + refused + " refused deliveries");
        }
        check.end();
    }

    private static long answer(Call call) {
        try {
            return call.run();
        } catch (IndexOutOfBoundsException e) {
            return REFUSED_INDEX;
        } catch (IllegalStateException e) {
            return REFUSED_STATE;
        } catch (IllegalArgumentException e) {
            return REFUSED_ARGUMENT;
        } catch (RuntimeException e) {
            return REFUSED_ELSE;
        }
    }

    private long same(String text, Call ofHouse, Call ofModel) {
        left--;
        long got = answer(ofHouse);
        check.due(text, got, answer(ofModel));
        return got;
    }

    private void step() {
        int chance = random.nextInt(100);
        if (chance < 8) {
            look();
        } else if (chance < 20) {
            give();
        } else if (chance < 26) {
            setClock();
        } else if (chance < 29) {
            disturb();
        } else if (chance < 40) {
            begin();
        } else if (crowded && chance < 70) {
            twin();
        } else if (!orderly && chance < 50) {
            loseOrTwin();
        } else {
            deliver();
        }
    }

    private int issuer() {
        int count = orderly ? 4 : 8;
        return random.nextInt(60) == 0 ? random.nextInt(12) - 2 : random.nextInt(count);
    }

    private int letterIndex() {
        if (random.nextInt(60) == 0) {
            return random.nextInt(94) - 2;
        }
        int count = Math.max(1, model.letters());
        return orderly && random.nextInt(8) > 0 ? 0 : random.nextInt(count);
    }

    private void begin() {
        int i = issuer();
        if (random.nextBoolean()) {
            same("start(" + i + ")", () -> { house.start(i); return 0; }, () -> { model.start(i); return 0; });
        } else {
            same("prolong(" + i + ")", () -> { house.prolong(i); return 0; }, () -> { model.prolong(i); return 0; });
        }
    }

    private void disturb() {
        int i = issuer();
        boolean up = random.nextInt(3) > 0;
        if (random.nextInt(4) == 0) {
            same("crash(" + i + ")", () -> { house.crash(i); return 0; }, () -> { model.crash(i); return 0; });
        } else {
            same("node(" + i + ", " + up + ")", () -> { house.node(i, up); return 0; },
                    () -> { model.node(i, up); return 0; });
        }
    }

    private void setClock() {
        int i = issuer();
        long t = time();
        same("clock(" + i + ", " + t + ")", () -> { house.clock(i, t); return 0; },
                () -> { model.clock(i, t); return 0; });
    }

    private long time() {
        long now = Math.max(0, model.issuer(random.nextInt(8), 4));
        switch (random.nextInt(12)) {
            case 0: return (1L << 41) - 60002 + random.nextInt(5);
            case 1: return (1L << 41) - 3 + random.nextInt(5);
            case 2: return (1L << 40) - 2 + random.nextInt(4);
            case 3: return random.nextInt(5) - 1;
            case 4: return now + 1 - random.nextInt(3);
            case 5: return Math.max(0, now - 5001 + random.nextInt(3));
            case 6: return now + random.nextInt(70000);
            default: return random.nextInt(130000);
        }
    }

    private void give() {
        int i = issuer();
        if (random.nextBoolean()) {
            given(same("next(" + i + ")", () -> house.next(i), () -> model.next(i)), 1);
            return;
        }
        int[] counts = {1, 2, 500, 1000, 1022, 1023, 1024, random.nextInt(1030) - 2};
        int n = counts[random.nextInt(counts.length)];
        given(same("batch(" + i + ", " + n + ")", () -> house.batch(i, n), () -> model.batch(i, n)), n);
    }

    private void given(long first, int n) {
        if (first == 0 || first == REFUSED_INDEX || first == REFUSED_ARGUMENT) {
            return;
        }
        granted++;
        for (int j = 0; j < n; j++) {
            if (!numbers.add(first + j)) {
                check.report("the number " + (first + j) + " was given twice");
            }
        }
    }

    private void deliver() {
        int k = letterIndex();
        if (same("deliver(" + k + ")", () -> house.deliver(k), () -> model.deliver(k)) == REFUSED_STATE) {
            refusedDeliveries++;
        }
    }

    private void twin() {
        int k = letterIndex();
        same("twin(" + k + ")", () -> { house.twin(k); return 0; }, () -> { model.twin(k); return 0; });
    }

    private void loseOrTwin() {
        if (random.nextBoolean()) {
            twin();
            return;
        }
        int k = letterIndex();
        same("lose(" + k + ")", () -> { house.lose(k); return 0; }, () -> { model.lose(k); return 0; });
    }

    private void look() {
        int what = random.nextInt(9);
        int i = issuer();
        int k = random.nextInt(4) == 0 ? letterIndex() : random.nextInt(Math.max(1, model.letters()));
        switch (random.nextInt(5)) {
            case 0:
                same("letters()", () -> house.letters(), () -> model.letters());
                break;
            case 1:
                same("letter(" + k + ", " + what + ")", () -> house.letter(k, what), () -> model.letter(k, what));
                break;
            case 2:
                same("seat(" + i + ", " + what % 4 + ")", () -> house.seat(i, what % 4), () -> model.seat(i, what % 4));
                break;
            case 3:
                long number = random.nextLong() >> random.nextInt(60);
                same("part(" + number + ", " + what % 4 + ")", () -> house.part(number, what % 4),
                        () -> model.part(number, what % 4));
                break;
            default:
                same("issuer(" + i + ", " + what + ")", () -> house.issuer(i, what), () -> model.issuer(i, what));
                break;
        }
    }
}

import java.util.ArrayList;
import java.util.Arrays;
import java.util.HashMap;
import java.util.HashSet;
import java.util.List;
import java.util.Map;
import java.util.Set;

/**
 * The document once more, written in another way than the program: every letter has copies of all
 * it tells, and what may be refused is tried on a copy of the whole.
 */
final class Model {
    private static final int BALLOT = 0;
    private static final int HOLDER = 1;
    private static final int TERM = 2;
    private static final int MARK = 3;

    private record Mail(int kind, int issuer, int node, int ballot, int seat, int promised, long[][] rows) {
    }

    private static final class Who {
        long clock;
        int a;
        int numbers = -1;
        int doing;
        int ballot;
        Map<Integer, long[][]> promises = new HashMap<>();
        Set<Integer> yes = new HashSet<>();
        long[] asked;
        long[] ready;
        List<long[]> gave = new ArrayList<>();
        int failed;
        long total;

        Who copy() {
            Who c = new Who();
            c.clock = clock;
            c.a = a;
            c.numbers = numbers;
            c.doing = doing;
            c.ballot = ballot;
            c.promises = new HashMap<>(promises);
            c.yes = new HashSet<>(yes);
            c.asked = asked;
            c.ready = ready;
            c.gave = new ArrayList<>(gave);
            c.failed = failed;
            c.total = total;
            return c;
        }
    }

    private Who[] who = new Who[8];
    private boolean[] up = {true, true, true, true, true};
    private int[] promised = new int[5];
    private long[][][] rows = new long[5][8][];
    private List<Mail> mail = new ArrayList<>();

    Model() {
        Arrays.setAll(who, i -> new Who());
        for (long[][] ofNode : rows) {
            Arrays.setAll(ofNode, s -> new long[] {0, -1, 0, 0});
        }
    }

    private Model copy() {
        Model c = new Model();
        Arrays.setAll(c.who, i -> who[i].copy());
        c.up = up.clone();
        c.promised = promised.clone();
        Arrays.setAll(c.rows, n -> rows[n].clone());
        c.mail = new ArrayList<>(mail);
        return c;
    }

    private void become(Model other) {
        who = other.who;
        up = other.up;
        promised = other.promised;
        rows = other.rows;
        mail = other.mail;
    }

    private static void index(boolean fine) {
        if (!fine) {
            throw new IndexOutOfBoundsException();
        }
    }

    private static void argument(boolean fine) {
        if (!fine) {
            throw new IllegalArgumentException();
        }
    }

    private static void state(boolean fine) {
        if (!fine) {
            throw new IllegalStateException();
        }
    }

    void clock(int i, long t) {
        index(0 <= i && i <= 7);
        argument(0 <= t && t < 1L << 41);
        who[i].clock = t;
    }

    void start(int i) {
        index(0 <= i && i <= 7);
        state(who[i].ready == null && who[i].doing == 0 && mail.size() + 5 <= 90);
        begin(i);
    }

    void prolong(int i) {
        index(0 <= i && i <= 7);
        state(who[i].ready != null && who[i].doing == 0 && mail.size() + 5 <= 90);
        begin(i);
    }

    private void begin(int i) {
        Who w = who[i];
        w.a++;
        while (w.a <= w.numbers) {
            w.a++;
        }
        w.ballot = 8 * w.a + i;
        w.doing = 1;
        w.promises.clear();
        w.yes.clear();
        for (int n = 0; n < 5; n++) {
            mail.add(new Mail(0, i, n, w.ballot, -1, -1, null));
        }
    }

    void crash(int i) {
        index(0 <= i && i <= 7);
        who[i].ready = null;
        who[i].doing = 0;
        who[i].numbers = -1;
        who[i].gave.clear();
    }

    void node(int n, boolean isUp) {
        index(0 <= n && n <= 4);
        up[n] = isUp;
    }

    int letters() {
        return mail.size();
    }

    int deliver(int k) {
        index(0 <= k && k < mail.size());
        Model after = copy();
        Mail m = after.mail.remove(k);
        int before = after.mail.size();
        if (m.kind == 0 || m.kind == 2) {
            after.atNode(m);
        } else {
            after.atIssuer(m);
        }
        state(after.mail.size() <= 90);
        int sent = after.mail.size() - before;
        become(after);
        return sent;
    }

    private void atNode(Mail m) {
        int n = m.node;
        if (!up[n]) {
            return;
        }
        if (m.kind == 0 ? m.ballot <= promised[n] : m.ballot < promised[n]) {
            mail.add(new Mail(4, m.issuer, n, m.ballot, -1, promised[n], null));
            return;
        }
        promised[n] = m.ballot;
        if (m.kind == 0) {
            mail.add(new Mail(1, m.issuer, n, m.ballot, -1, -1, rows[n].clone()));
        } else {
            rows[n][m.seat] = m.rows[0].clone();
            mail.add(new Mail(3, m.issuer, n, m.ballot, -1, -1, null));
        }
    }

    private void atIssuer(Mail m) {
        Who w = who[m.issuer];
        if (w.doing == 0 || m.ballot != w.ballot) {
            return;
        }
        if (m.kind == 4) {
            w.numbers = m.promised / 8;
            fail(w);
        } else if (m.kind == 1 && w.doing == 1) {
            w.promises.put(m.node, m.rows);
            if (w.promises.size() == 3) {
                ask(m.issuer);
            }
        } else if (m.kind == 3 && w.doing == 2) {
            w.yes.add(m.node);
            if (w.yes.size() == 3) {
                w.doing = 0;
                w.ready = w.asked;
                w.gave.clear();
            }
        }
    }

    private static void fail(Who w) {
        w.doing = 0;
        w.failed++;
    }

    private void ask(int i) {
        Who w = who[i];
        long[][] best = new long[8][];
        for (long[][] told : w.promises.values()) {
            for (int s = 0; s < 8; s++) {
                best[s] = best[s] == null || told[s][BALLOT] > best[s][BALLOT] ? told[s] : best[s];
            }
        }
        int seat = -1;
        for (int s = 7; s >= 0; s--) {
            seat = best[s][HOLDER] == -1 ? s : seat;
        }
        for (int s = 7; s >= 0; s--) {
            seat = best[s][HOLDER] == i ? s : seat;
        }
        if (w.ready != null) {
            seat = (int) w.ready[0];
        }
        if (seat == -1) {
            fail(w);
            return;
        }
        long term = w.ready != null ? w.ready[1] : best[seat][TERM] + 1;
        long first = w.clock > best[seat][MARK] ? w.clock : best[seat][MARK] + 1;
        long last = first + 59999;
        if (last >= 1L << 41) {
            fail(w);
            return;
        }
        w.doing = 2;
        w.asked = new long[] {seat, term, first, last};
        for (int n = 0; n < 5; n++) {
            mail.add(new Mail(2, i, n, w.ballot, seat, -1, new long[][] {{w.ballot, i, term, last}}));
        }
    }

    void lose(int k) {
        index(0 <= k && k < mail.size());
        mail.remove(k);
    }

    void twin(int k) {
        index(0 <= k && k < mail.size());
        state(mail.size() < 90);
        mail.add(mail.get(k));
    }

    int letter(int k, int what) {
        index(0 <= k && k < mail.size() && 0 <= what && what <= 5);
        Mail m = mail.get(k);
        return new int[] {m.kind, m.issuer, m.node, m.ballot, m.seat, m.promised}[what];
    }

    long issuer(int i, int what) {
        index(0 <= i && i <= 7 && 0 <= what && what <= 7);
        Who w = who[i];
        long[] r = w.ready != null ? w.ready : new long[] {-1, -1, -1, -1};
        long gaveLast = w.gave.isEmpty() ? -1 : w.gave.get(w.gave.size() - 1)[0];
        return new long[] {w.ready != null ? 1 : 0, w.doing, r[0], r[1], r[3], gaveLast, w.failed, w.total}[what];
    }

    long next(int i) {
        index(0 <= i && i <= 7);
        return give(who[i]);
    }

    private static long give(Who w) {
        if (w.ready == null) {
            return 0;
        }
        long[] at = goesOn(w);
        if (at[0] > w.ready[3] || at[0] - w.clock > 5000) {
            return 0;
        }
        w.gave.add(at);
        w.total++;
        return at[0] * 8388608L + w.ready[0] * 1024L + at[1];
    }

    private static long[] goesOn(Who w) {
        long time = w.clock > w.ready[2] ? w.clock : w.ready[2];
        if (w.gave.isEmpty()) {
            return new long[] {time, 0};
        }
        long[] last = w.gave.get(w.gave.size() - 1);
        if (last[0] < time) {
            return new long[] {time, 0};
        }
        return last[1] == 1023 ? new long[] {last[0] + 1, 0} : new long[] {last[0], last[1] + 1};
    }

    /** Really n times next(); a time that is too full is left behind with what is not given of it. */
    long batch(int i, int n) {
        index(0 <= i && i <= 7);
        argument(1 <= n && n <= 1024);
        Who w = who[i].copy();
        if (w.ready == null) {
            return 0;
        }
        long[] at = goesOn(w);
        if (at[1] + n > 1024) {
            w.gave.add(new long[] {at[0], 1023});
        }
        long first = give(w);
        for (int j = 1; j < n && first != 0; j++) {
            if (give(w) != first + j) {
                throw new AssertionError("a batch in pieces");
            }
        }
        if (first != 0) {
            who[i] = w;
        }
        return first;
    }

    long seat(int s, int what) {
        index(0 <= s && s <= 7 && 0 <= what && what <= 2);
        int count = 0;
        long[] best = {-1, -1, -1, -1};
        for (int n = 0; n < 5; n++) {
            if (up[n]) {
                count++;
                best = rows[n][s][BALLOT] > best[BALLOT] ? rows[n][s] : best;
            }
        }
        return count < 3 || best[HOLDER] == -1 ? -1 : best[HOLDER + what];
    }

    long part(long number, int what) {
        argument(number >= 0 && 0 <= what && what <= 2);
        return new long[] {number / 8388608L, number / 1024 % 8192, number % 1024}[what];
    }
}

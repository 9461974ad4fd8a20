import java.util.Random;

/** Runs of calls by chance (always the same ones), on the program and on Plain: all answers must be alike. */
public final class AgainstPlainTest {
    private static final int RUNS = Integer.getInteger("runs", 400);
    private static final int FIRST = Integer.getInteger("first", 0);

    private final Random dice;
    private final int run;
    private final LampYear x = new LampYear();
    private final Plain p = new Plain();
    private final StringBuilder told = new StringBuilder();
    private int known = 0;
    private int calls = 0;
    private boolean unlike = false;

    private AgainstPlainTest(int run) {
        this.run = run;
        dice = new Random(run * 7919L + 13);
    }

    public static void main(String[] args) {
        int wrong = 0;
        int calls = 0;
        for (int run = FIRST; run < FIRST + RUNS && wrong < 5; run++) {
            AgainstPlainTest t = new AgainstPlainTest(run);
            t.play();
            calls += t.calls;
            wrong += t.unlike ? 1 : 0;
        }
        System.out.println(wrong == 0 ? RUNS + " runs, " + calls + " calls: all as Plain has it" : wrong + " runs are unlike");
        if (wrong != 0) {
            System.exit(1);
        }
    }

    // ---- numbers by chance

    private int below(int n) {
        return dice.nextInt(Math.max(1, n));
    }

    private int from(int a, int b) {
        return a + below(b - a + 1);
    }

    /** Mostly from a to b, at times just outside or far away. */
    private int near(int a, int b) {
        int r = below(60);
        if (r == 0) return a - 1;
        if (r == 1) return b + 1;
        if (r == 2) return new int[] {Integer.MIN_VALUE, Integer.MAX_VALUE, -1, 0, 1000, 1 << 20}[below(6)];
        if (r == 3) return a;
        if (r == 4) return b;
        return b < a ? a : from(a, b);
    }

    private int week() {
        return below(3) == 0 ? near(0, 12) : near(0, 59);
    }

    private int somePlace() { return near(0, p.places.size() - 1); }

    private int someLearner() { return near(0, p.learners.size() - 1); }

    private int someTeacher() { return near(0, p.teachers.size() - 1); }

    private int someLamp() { return near(0, p.lamps.size() - 1); }

    // ---- one call on both

    private void same(String call, long got, long want) {
        calls++;
        told.append(call).append(" -> ").append(got).append('\n');
        if ((got != want || x.status() != p.status()) && !unlike) {
            unlike = true;
            System.out.println("run " + run + ":\n" + told + "due is " + want + ", status " + x.status()
                    + ", due is " + p.status());
        }
    }

    private void same(String call, boolean got, boolean want) {
        same(call, got ? 1 : 0, want ? 1 : 0);
    }

    private static String show(String name, long... v) {
        StringBuilder s = new StringBuilder(name).append('(');
        for (int i = 0; i < v.length; i++) s.append(i == 0 ? "" : ", ").append(v[i]);
        return s.append(')').toString();
    }

    private void play() {
        int style = below(4);
        setUp(style);
        int more = style == 0 ? 60 : 110;
        for (int i = 0; i < more && calls < 230 && !unlike; i++) {
            int r = below(100);
            if (r < 8) note();
            else if (r < 12) orders();
            else if (r < 16) change();
            else if (r < 30) ask();
            else if (r < 55) askYear();
            else if (r < 68) askProofs();
            else if (r < 80) askSending();
            else if (r < 90) askOrders();
            else trays();
        }
    }

    private void setUp(int style) {
        int scale = style == 0 ? 3 : 1;
        for (int i = from(1, 5 * scale + 2); i > 0; i--) place();
        for (int i = from(0, 7 * scale); i > 0; i--) way();
        for (int i = from(1, 4 * scale + 1); i > 0; i--) lamp();
        for (int i = from(1, 6 * scale + 3); i > 0; i--) teacher();
        for (int i = from(1, 12 * scale + 6); i > 0; i--) learner();
        for (int i = from(3, 20 * scale); i > 0; i--) note();
        for (int i = below(4); i > 0; i--) orders();
        for (int i = below(4); i > 0; i--) lesson();
    }

    private void place() {
        int s = near(0, 3);
        same(show("place", s), x.place(s), p.place(s));
    }

    private void way() {
        int a = somePlace();
        int b = somePlace();
        int w = near(1, 9);
        int f = NONE;
        int t = NONE;
        if (below(3) > 0) {
            f = week();
            t = below(8) == 0 ? week() : Math.min(59, f + below(20));
        }
        same(show("way", a, b, w, f, t), x.way(a, b, w, f, t), p.way(a, b, w, f, t));
    }

    private static final int NONE = -1;

    private void lamp() {
        int at = somePlace();
        same(show("lamp", at), x.lamp(at), p.lamp(at));
    }

    private void teacher() {
        int t = near(1, 31);
        int at = somePlace();
        same(show("teacher", t, at), x.teacher(t, at), p.teacher(t, at));
    }

    private void learner() {
        int home = somePlace();
        int age = below(4) == 0 ? new int[] {5, 39, 40, 59, 60, 99}[below(6)] : near(5, 99);
        int tongue = near(0, 4);
        same(show("learner", home, age, tongue), x.learner(home, age, tongue), p.learner(home, age, tongue));
    }

    private void note() {
        int sort = below(12) == 0 ? near(0, 3) : new int[] {0, 0, 1, 1, 1, 1, 2, 3}[below(8)];
        int who = sort == 0 || sort == 3 ? someTeacher() : someLearner();
        int lamp = sort < 2 && below(30) > 0 || below(30) == 0 ? someLamp() : NONE;
        int f = below(2) == 0 ? 0 : week();
        int t = below(20) == 0 ? week() : sort < 2 ? Math.min(59, f + below(60)) : Math.min(59, f + below(12));
        if (below(4) == 0 && known < 59) known += below(4);
        int k = below(25) == 0 ? week() : known;
        same(show("note", sort, who, lamp, f, t, k), x.note(sort, who, lamp, f, t, k), p.note(sort, who, lamp, f, t, k));
    }

    private void lesson() {
        int k = near(0, 14);
        int needs = below(2) == 0 ? near(1, 12) : near(1, 60);
        int leans = below(10) == 0 ? near(0, 1 << 14) : k > 0 && k < 15 ? below(1 << k) & below(1 << k) : 0;
        int letters = below(10) == 0 ? near(0, (1 << 26) - 1) : below(1 << 26) & below(1 << 26);
        same(show("lesson", k, needs, leans, letters), x.lesson(k, needs, leans, letters), p.lesson(k, needs, leans, letters));
    }

    private void change() {
        switch (below(9)) {
            case 0 -> place();
            case 1 -> way();
            case 2 -> lamp();
            case 3 -> teacher();
            case 4 -> learner();
            case 5 -> lesson();
            case 6 -> {
                int f = near(1, 20);
                same(show("fade", f), x.fade(f), p.fade(f));
            }
            default -> {
                int w = below(3) == 0 ? 59 : near(0, 30);
                same(show("asof", w), x.asof(w), p.asof(w));
            }
        }
    }

    private void ask() {
        int w = week();
        switch (below(3)) {
            case 0 -> {
                int a = somePlace();
                int b = somePlace();
                same(show("arrival", a, b, w), x.arrival(a, b, w), p.arrival(a, b, w));
            }
            case 1 -> {
                int what = near(0, 1);
                int who = what == 0 ? someTeacher() : someLearner();
                same(show("where", what, who, w), x.where(what, who, w), p.where(what, who, w));
            }
            default -> {
                int l = someLamp();
                same(show("lit", l, w), x.lit(l, w), p.lit(l, w));
            }
        }
    }

    private void askYear() {
        int l = someLearner();
        int w = week();
        switch (below(5)) {
            case 0 -> same(show("knows", l, w), x.knows(l, w), p.knows(l, w));
            case 1 -> {
                int k = near(0, 14);
                same(show("hours", l, k, w), x.hours(l, k, w), p.hours(l, k, w));
            }
            case 2 -> same(show("gap", l, w), x.gap(l, w), p.gap(l, w));
            case 3 -> {
                int n = below(2) == 0 ? near(0, 8) : near(0, 60);
                int h = below(3) == 0 ? 0 : near(0, 60);
                same(show("foretold", l, w, n, h), x.foretold(l, w, n, h), p.foretold(l, w, n, h));
            }
            default -> {
                int what = near(0, 2);
                same(show("taught", l, w, what), x.taught(l, w, what), p.taught(l, w, what));
            }
        }
    }

    // ---- PROOFS

    private long word(int letters, int most) {
        long v = 0;
        for (int i = from(1, most); i > 0; i--) v = v << 5 | from(1, letters);
        if (below(50) == 0) v = new long[] {0, -1, Long.MIN_VALUE, 1L << 40, 27, 31, 32, 33L << 35, 1L << 60}[below(9)];
        return v;
    }

    private long slipped(long v) {
        String s = Plain.word(v);
        StringBuilder b = new StringBuilder(s.isEmpty() ? "a" : s);
        for (int i = below(4); i > 0; i--) {
            int at = below(b.length());
            switch (below(3)) {
                case 0 -> b.setCharAt(at, (char) ('a' + below(26)));
                case 1 -> b.insert(at, (char) ('a' + below(26)));
                default -> {
                    if (b.length() > 1) b.deleteCharAt(at);
                }
            }
        }
        b.setLength(Math.min(8, b.length()));
        return Due.word(b.toString());
    }

    private void askProofs() {
        int proof = near(0, p.proofs.size() - 1);
        switch (below(7)) {
            case 0, 1 -> {
                int l = someLearner();
                int w = week();
                long a = word(below(2) == 0 ? 2 : 26, 8);
                long b = below(2) == 0 ? slipped(a) : word(below(2) == 0 ? 2 : 26, 8);
                same(show("proof", l, w, a, b), x.proof(l, w, a, b), p.proof(l, w, a, b));
            }
            case 2, 3 -> {
                int what = near(0, 3);
                same(show("slips", proof, what), x.slips(proof, what), p.slips(proof, what));
            }
            case 4 -> {
                int k = near(0, 14);
                same(show("owed", proof, k), x.owed(proof, k), p.owed(proof, k));
            }
            case 5 -> {
                int l = someLearner();
                int w = week();
                same(show("reads", l, w), x.reads(l, w), p.reads(l, w));
            }
            default -> {
                int at = somePlace();
                int w = week();
                same(show("flag", at, w), x.flag(at, w), p.flag(at, w));
            }
        }
    }

    // ---- SENT, COUNTS, NEAR

    private void askSending() {
        switch (below(4)) {
            case 0 -> send();
            case 1 -> {
                int k = near(0, 6);
                same(show("sent", k), x.sent(k), p.sent(k));
            }
            case 2 -> {
                int all = near(1, 60);
                int drawn = near(1, all > 0 && all < 61 ? all : 60);
                int found = near(0, drawn > 0 && drawn < 61 ? drawn : 60);
                int what = near(0, 1);
                same(show("count", all, drawn, found, what), x.count(all, drawn, found, what), p.count(all, drawn, found, what));
            }
            default -> {
                int l = someLamp();
                int w = week();
                same(show("near", l, w), x.near(l, w), p.near(l, w));
            }
        }
    }

    private void send() {
        int many = Math.min(7, Math.min(p.lamps.size(), p.teachers.size()));
        if (below(3) > 0) {
            many = from(1, Math.max(1, many));
            fill(0, many, p.lamps.size());
            fill(1, many, p.teachers.size());
        }
        int a = below(20) == 0 ? near(0, 3) : 0;
        int b = below(20) == 0 ? near(0, 3) : 1;
        int n = below(10) == 0 ? near(1, 7) : many;
        int w = below(4) == 0 ? week() : below(20);
        same(show("send", a, b, n, w), x.send(a, b, n, w), p.send(a, b, n, w));
        for (int k = 0; k < n && k < 7; k++) same(show("sent", k), x.sent(k), p.sent(k));
    }

    private void fill(int tray, int many, int bound) {
        int sort = below(4);
        int size = below(20) == 0 ? Math.max(0, many - 1) : many + below(3);
        same(show("tray", tray, sort, size), x.tray(tray, sort, size), p.tray(tray, sort, size));
        int shift = below(bound);
        for (int k = 0; k < many; k++) {
            long v = below(40) == 0 ? near(-1, 20) : (k + shift) % Math.max(1, bound);
            same(show("write", tray, k, v), x.write(tray, k, v), p.write(tray, k, v));
        }
    }

    // ---- TRAYS

    private void trays() {
        int t = near(0, 3);
        switch (below(4)) {
            case 0 -> {
                int sort = near(0, 3);
                int many = below(2) == 0 ? near(0, 60) : near(0, 5);
                same(show("tray", t, sort, many), x.tray(t, sort, many), p.tray(t, sort, many));
            }
            case 1 -> {
                int at = near(0, 6);
                long v = dice.nextLong() >> below(64);
                same(show("write", t, at, v), x.write(t, at, v), p.write(t, at, v));
            }
            case 2 -> {
                int at = near(0, 6);
                same(show("read", t, at), x.read(t, at), p.read(t, at));
            }
            default -> {
                int u = near(0, 3);
                int a = near(0, 5);
                int b = near(0, 5);
                int n = near(0, 6);
                same(show("pour", t, a, u, b, n), x.pour(t, a, u, b, n), p.pour(t, a, u, b, n));
                for (int k = 0; k < 6; k++) same(show("read", u, k), x.read(u, k), p.read(u, k));
            }
        }
    }

    // ---- ORDERS

    private void askOrders() {
        int s = near(0, 3);
        int w = week();
        if (below(2) == 0) {
            int what = near(0, 3);
            same(show("rules", s, w, what), x.rules(s, w, what), p.rules(s, w, what));
        } else {
            int r = below(2) == 0 ? near(0, 5) : near(0, 60);
            same(show("struck", s, w, r), x.struck(s, w, r), p.struck(s, w, r));
        }
    }

    private void orders() {
        String text = Texts.text(dice);
        told.append("text: ").append(text).append('\n');
        feed(text);
        int n = below(30) == 0 ? near(0, 600) : below(25) == 0 ? below(text.length() + 1) : text.length();
        int w = below(3) == 0 ? 0 : week();
        int s = near(1, 15);
        same(show("orders", n, w, s), x.orders(n, w, s), p.orders(n, w, s));
        for (int what = -1; what < 3; what++) same(show("fault", what), x.fault(what), p.fault(what));
        // what was not taken off the tape is in the way of the next text
        if (p.tape.length() > 0 && below(2) == 0) {
            same("orders to empty the tape", x.orders(0, 59, 1), p.orders(0, 59, 1));
        }
    }

    private void feed(String text) {
        for (int i = 0; i < text.length() || i == 0 && below(3) == 0; i += 20) {
            int[] v = new int[5];
            for (int k = 0; k < 5; k++) v[k] = Due.four(text, i + 4 * k);
            same(show("feed", v[0], v[1], v[2], v[3], v[4]), x.feed(v[0], v[1], v[2], v[3], v[4]), p.feed(v));
        }
    }
}

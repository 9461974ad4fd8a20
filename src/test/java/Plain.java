import java.math.BigInteger;
import java.util.ArrayList;
import java.util.Arrays;
import java.util.HashSet;
import java.util.List;
import java.util.Set;
import java.util.function.Function;
import java.util.function.ToLongFunction;

/**
 * The document once more, as plainly as can be and in other ways than the program: everything is reckoned
 * anew at every call, by recursion and by trying all ways. Only for tests.
 */
final class Plain {
    static final int NONE = -1;

    record Way(int a, int b, int weeks, int from, int to) {
        boolean shut(int week) {
            return from >= 0 && week >= from && week <= to;
        }
    }

    record Learner(int home, int age, int tongue) { }

    record Teacher(int tongues, int place) { }

    record Note(int sort, int who, int lamp, int from, int to, int known) { }

    record Rule(String label, String strikes, String does, int number,
                ToLongFunction<long[]> sum, Function<long[], Boolean> test, Function<long[], Boolean> unless) { }

    record Text(int week, int shires, List<Rule> rules) { }

    record Proof(int learner, int week, String told, String written) { }

    /** The state of one LEARNER behind a WEEK. */
    static final class Mind {
        int[] hours = new int[15];
        int gaps = 0;
        int lamp = NONE;
        boolean lit, may, taught;
        int given;
    }

    int status = 0;
    long[][] trays = new long[4][];
    int[] sorts = new int[4];
    List<Integer> places = new ArrayList<>();
    List<Way> ways = new ArrayList<>();
    List<Learner> learners = new ArrayList<>();
    List<Teacher> teachers = new ArrayList<>();
    List<Integer> lamps = new ArrayList<>();
    List<Note> notes = new ArrayList<>();
    List<Text> texts = new ArrayList<>();
    List<Proof> proofs = new ArrayList<>();
    StringBuilder tape = new StringBuilder();
    int asof = 59, faultKind = NONE, faultPlace = NONE, fade = 4;
    int[] needs = new int[15], leans = new int[15], letters = new int[15];
    int[] sent = new int[0];

    Plain() {
        for (int k = 0; k < 15; k++) {
            needs[k] = 6;
            letters[k] = 1 << k;
            if (k + 15 < 26) {
                letters[k] += 1 << (k + 15);
            }
        }
    }

    private int ok(int v) { status = 0; return v; }

    private int bad(int why) { status = why; return NONE; }

    private boolean fine() { status = 0; return true; }

    private boolean not(int why) { status = why; return false; }

    private static boolean in(long v, long a, long b) { return v >= a && v <= b; }

    private static boolean week(int w) { return in(w, 0, 59); }

    int status() { return status; }

    boolean tray(int tray, int sort, int many) {
        if (!in(tray, 0, 3) || !in(sort, 0, 3) || !in(many, 0, 60)) return not(1);
        trays[tray] = new long[many];
        sorts[tray] = sort;
        return fine();
    }

    private int noPlace(int tray, int place) {
        if (!in(tray, 0, 3)) return 1;
        if (trays[tray] == null) return 2;
        return in(place, 0, trays[tray].length - 1) ? 0 : 3;
    }

    boolean write(int tray, int place, long v) {
        int why = noPlace(tray, place);
        if (why != 0) return not(why);
        int away = 64 - (8 << sorts[tray]);
        trays[tray][place] = v << away >> away;
        return fine();
    }

    long read(int tray, int place) {
        int why = noPlace(tray, place);
        if (why != 0) return bad(why);
        status = 0;
        return trays[tray][place];
    }

    boolean pour(int from, int place, int to, int at, int many) {
        if (!in(from, 0, 3) || !in(to, 0, 3) || place < 0 || at < 0 || many < 0) return not(1);
        if (trays[from] == null || trays[to] == null) return not(2);
        if (sorts[from] != sorts[to]) return not(8);
        if ((long) place + many > trays[from].length || (long) at + many > trays[to].length) return not(3);
        long[] held = Arrays.copyOfRange(trays[from], place, place + many);
        for (int i = 0; i < many; i++) trays[to][at + i] = held[i];
        return fine();
    }

    int place(int shire) {
        if (!in(shire, 0, 3)) return bad(1);
        if (places.size() == 16) return bad(4);
        places.add(shire);
        return ok(places.size() - 1);
    }

    private boolean isPlace(int p) { return in(p, 0, places.size() - 1); }

    private boolean isLearner(int p) { return in(p, 0, learners.size() - 1); }

    private boolean isTeacher(int p) { return in(p, 0, teachers.size() - 1); }

    private boolean isLamp(int p) { return in(p, 0, lamps.size() - 1); }

    int way(int a, int b, int weeks, int from, int to) {
        if (!isPlace(a) || !isPlace(b) || a == b || !in(weeks, 1, 9)) return bad(1);
        if (from != NONE || to != NONE) {
            if (!week(from) || !week(to) || to < from) return bad(1);
        }
        if (ways.size() == 30) return bad(4);
        for (Way w : ways) {
            if (w.a + w.b == a + b && (w.a == a || w.a == b)) return bad(7);
        }
        ways.add(new Way(a, b, weeks, from, to));
        return ok(ways.size() - 1);
    }

    /** By spreading over all PLACES WEEK by WEEK. */
    int first(int from, int to, int start) {
        boolean[][] there = new boolean[80][16];
        there[start][from] = true;
        for (int w = start; w < 60; w++) {
            for (int p = 0; p < 16; p++) {
                if (!there[w][p]) continue;
                if (p == to) return w;
                there[w + 1][p] = true;
                for (Way y : ways) {
                    if (y.shut(w)) continue;
                    if (y.a == p) there[w + y.weeks][y.b] = true;
                    if (y.b == p) there[w + y.weeks][y.a] = true;
                }
            }
        }
        return NONE;
    }

    int arrival(int from, int to, int week) {
        if (!isPlace(from) || !isPlace(to) || !week(week)) return bad(1);
        int w = first(from, to, week);
        return w == NONE ? bad(6) : ok(w);
    }

    int learner(int home, int age, int tongue) {
        if (!isPlace(home) || !in(age, 5, 99) || !in(tongue, 0, 4)) return bad(1);
        if (learners.size() == 40) return bad(4);
        learners.add(new Learner(home, age, tongue));
        return ok(learners.size() - 1);
    }

    int teacher(int tongues, int place) {
        if (!in(tongues, 1, 31) || !isPlace(place)) return bad(1);
        if (teachers.size() == 20) return bad(4);
        teachers.add(new Teacher(tongues, place));
        return ok(teachers.size() - 1);
    }

    int lamp(int place) {
        if (!isPlace(place)) return bad(1);
        if (lamps.size() == 12) return bad(4);
        lamps.add(place);
        return ok(lamps.size() - 1);
    }

    boolean note(int sort, int who, int lamp, int from, int to, int known) {
        boolean can = switch (sort) {
            case 0 -> isTeacher(who) && isLamp(lamp);
            case 1 -> isLearner(who) && isLamp(lamp);
            case 2 -> isLearner(who) && lamp == NONE;
            case 3 -> isTeacher(who) && lamp == NONE;
            default -> false;
        };
        if (!can || !week(from) || !week(to) || to < from || !week(known)) return not(1);
        if (notes.size() == 160) return not(4);
        for (Note n : notes) if (n.known > known) return not(5);
        notes.add(new Note(sort, who, lamp, from, to, known));
        return fine();
    }

    boolean asof(int week) {
        if (!week(week)) return not(1);
        asof = week;
        return fine();
    }

    private int lampBy(int sort, int stop, int who, int week) {
        int lamp = NONE;
        for (int i = notes.size() - 1; i >= 0; i--) {
            Note n = notes.get(i);
            if (n.who != who || n.known > asof || week < n.from || week > n.to) continue;
            if (n.sort == stop) return NONE;
            if (n.sort == sort && lamp == NONE) lamp = n.lamp;
        }
        return lamp;
    }

    private int teacherLamp(int who, int week) { return lampBy(0, 3, who, week); }

    private int learnerLamp(int who, int week) { return lampBy(1, 2, who, week); }

    private int litBy(int lamp, int week) {
        for (int t = 0; t < teachers.size(); t++) if (teacherLamp(t, week) == lamp) return t;
        return NONE;
    }

    private int manyAt(int lamp, int week) {
        int n = 0;
        for (int l = 0; l < learners.size(); l++) if (learnerLamp(l, week) == lamp) n++;
        return n;
    }

    int where(int what, int who, int week) {
        if (!in(what, 0, 1) || !week(week)) return bad(1);
        if (what == 0 ? !isTeacher(who) : !isLearner(who)) return bad(1);
        int lamp = what == 0 ? teacherLamp(who, week) : learnerLamp(who, week);
        return lamp == NONE ? bad(6) : ok(lamp);
    }

    int lit(int lamp, int week) {
        if (!isLamp(lamp) || !week(week)) return bad(1);
        int t = litBy(lamp, week);
        return t == NONE ? bad(6) : ok(t);
    }

    // ---- ORDERS: a parser by recursion that stops at the first fault by an exception

    int feed(int... five) {
        if (tape.length() + 20 > 600) return NONE;
        for (int v : five) for (int s = 24; s >= 0; s -= 8) tape.append((char) (v >>> s & 255));
        return tape.length();
    }

    static final class Fault extends RuntimeException {
        final int kind, place;

        Fault(int kind, int place) {
            super(null, null, false, false);
            this.kind = kind;
            this.place = place;
        }
    }

    static final Set<String> KEYS = Set.of("strikes", "may", "unless", "hours", "room", "pass", "flag", "or", "and", "not");
    static final List<String> VARIABLES = List.of("age", "tongue", "many", "week", "done", "rain", "shire");

    static final class Parser {
        final String text;
        int at = 0;
        String token = "";
        int start = 0;
        final List<Rule> rules = new ArrayList<>();

        Parser(String text) {
            this.text = text;
        }

        static boolean all(String s, String set) {
            for (char c : s.toCharArray()) if (set.indexOf(c) < 0) return false;
            return true;
        }

        static final String SMALL = "abcdefghijklmnopqrstuvwxyz", DIGITS = "0123456789";

        void next() {
            while (at < text.length() && (text.charAt(at) == ' ' || text.charAt(at) == '\n')) at++;
            start = at;
            if (at == text.length()) {
                token = "";
                return;
            }
            String first = text.substring(at, at + 1);
            String set = SMALL.contains(first) ? SMALL : DIGITS.contains(first) ? DIGITS : null;
            int end = at + 1;
            while (set != null && end < text.length() && set.indexOf(text.charAt(end)) >= 0) end++;
            token = text.substring(at, end);
            if (set == null && !";:<>=+-*/()".contains(first)) throw new Fault(1, start);
            if (set == DIGITS && token.length() > 4) throw new Fault(1, start);
            at = end;
        }

        Fault here(int kind) { return new Fault(kind, start); }

        boolean is(String s) { return token.equals(s); }

        void eat(String s) {
            if (!is(s)) throw here(2);
            next();
        }

        boolean isNumber() { return !token.isEmpty() && all(token, DIGITS); }

        String label() {
            if (token.isEmpty() || !all(token, SMALL) || token.length() > 8
                    || KEYS.contains(token) || VARIABLES.contains(token)) throw here(2);
            return token;
        }

        List<Rule> parse() {
            next();
            while (!token.isEmpty()) rule();
            return rules;
        }

        void rule() {
            String label = label(), strikes = null;
            if (rules.size() == 20) throw here(3);
            for (Rule r : rules) if (r.label.equals(label)) throw here(4);
            next();
            if (is("strikes")) {
                next();
                strikes = label();
                next();
            }
            eat(":");
            String does = token;
            Rule r;
            if (is("may")) {
                next();
                Function<long[], Boolean> t = test();
                r = new Rule(label, strikes, does, 0, null, t, unless());
            } else if (is("hours")) {
                next();
                ToLongFunction<long[]> s = sum(0);
                r = new Rule(label, strikes, does, 0, s, null, unless());
            } else if (is("room") || is("pass") || is("flag")) {
                next();
                if (!isNumber()) throw here(2);
                int n = Integer.parseInt(token);
                if (!in(n, does.equals("pass") ? 0 : 1, does.equals("flag") ? 100 : 40)) throw here(6);
                next();
                r = new Rule(label, strikes, does, n, null, null, null);
            } else {
                throw here(2);
            }
            eat(";");
            rules.add(r);
        }

        Function<long[], Boolean> unless() {
            if (!is("unless")) return null;
            next();
            return test();
        }

        Function<long[], Boolean> test() {
            Function<long[], Boolean> a = part();
            while (is("or")) {
                next();
                Function<long[], Boolean> l = a, r = part();
                a = f -> l.apply(f) || r.apply(f);
            }
            return a;
        }

        Function<long[], Boolean> part() {
            Function<long[], Boolean> a = one();
            while (is("and")) {
                next();
                Function<long[], Boolean> l = a, r = one();
                a = f -> l.apply(f) && r.apply(f);
            }
            return a;
        }

        Function<long[], Boolean> one() {
            boolean not = is("not");
            if (not) next();
            ToLongFunction<long[]> l = sum(0);
            String c = token;
            if (!is("<") && !is(">") && !is("=")) throw here(2);
            next();
            ToLongFunction<long[]> r = sum(0);
            return f -> not != switch (c) {
                case "<" -> l.applyAsLong(f) < r.applyAsLong(f);
                case ">" -> l.applyAsLong(f) > r.applyAsLong(f);
                default -> l.applyAsLong(f) == r.applyAsLong(f);
            };
        }

        ToLongFunction<long[]> sum(int depth) {
            ToLongFunction<long[]> a = item(depth);
            while (is("+") || is("-")) {
                boolean plus = is("+");
                next();
                ToLongFunction<long[]> l = a, r = item(depth);
                a = f -> plus ? l.applyAsLong(f) + r.applyAsLong(f) : l.applyAsLong(f) - r.applyAsLong(f);
            }
            return a;
        }

        ToLongFunction<long[]> item(int depth) {
            ToLongFunction<long[]> a = atom(depth);
            while (is("*") || is("/")) {
                boolean times = is("*");
                next();
                ToLongFunction<long[]> l = a, r = atom(depth);
                a = f -> {
                    long x = l.applyAsLong(f), y = r.applyAsLong(f);
                    return times ? x * y : y == 0 ? 0 : x / y;
                };
            }
            return a;
        }

        ToLongFunction<long[]> atom(int depth) {
            if (isNumber()) {
                long n = Long.parseLong(token);
                next();
                return f -> n;
            }
            int v = VARIABLES.indexOf(token);
            if (v >= 0) {
                next();
                return f -> f[v];
            }
            if (!is("(")) throw here(2);
            if (depth == 6) throw here(5);
            next();
            ToLongFunction<long[]> s = sum(depth + 1);
            eat(")");
            return s;
        }
    }

    int orders(int n, int week, int shires) {
        if (!in(n, 0, tape.length()) || !week(week) || !in(shires, 1, 15)) return bad(1);
        if (texts.size() == 5) return bad(4);
        String text = tape.substring(0, n);
        tape.setLength(0);
        try {
            List<Rule> rules = new Parser(text).parse();
            texts.add(new Text(week, shires, rules));
            faultKind = 0;
            faultPlace = NONE;
            return ok(rules.size());
        } catch (Fault f) {
            faultKind = f.kind;
            faultPlace = f.place;
            return bad(9);
        }
    }

    int fault(int what) {
        return what == 0 ? faultKind : what == 1 ? faultPlace : NONE;
    }

    private List<Rule> standing(int shire, int week) {
        List<Rule> all = new ArrayList<>();
        for (int w = 0; w <= week; w++) {
            for (Text t : texts) if (t.week == w && (t.shires & 1 << shire) != 0) all.addAll(t.rules);
        }
        return all;
    }

    private static boolean isStruck(List<Rule> all, int i) {
        for (int j = i + 1; j < all.size(); j++) if (all.get(i).label.equals(all.get(j).strikes)) return true;
        return false;
    }

    private List<Rule> speaking(int shire, int week, String does) {
        List<Rule> all = standing(shire, week), some = new ArrayList<>();
        for (int i = 0; i < all.size(); i++) {
            if (all.get(i).does.equals(does) && !isStruck(all, i)) some.add(all.get(i));
        }
        return some;
    }

    private int last(int shire, int week, String does, int without) {
        List<Rule> some = speaking(shire, week, does);
        return some.isEmpty() ? without : some.get(some.size() - 1).number;
    }

    private int room(int shire, int week) { return last(shire, week, "room", 40); }

    private int pass(int shire, int week) { return last(shire, week, "pass", 0); }

    int rules(int shire, int week, int what) {
        if (!in(shire, 0, 3) || !week(week) || !in(what, 0, 3)) return bad(1);
        return ok(switch (what) {
            case 0 -> standing(shire, week).size();
            case 1 -> room(shire, week);
            case 2 -> pass(shire, week);
            default -> last(shire, week, "flag", 100);
        });
    }

    int struck(int shire, int week, int rule) {
        if (!in(shire, 0, 3) || !week(week)) return bad(1);
        List<Rule> all = standing(shire, week);
        if (!in(rule, 0, all.size() - 1)) return bad(1);
        return ok(isStruck(all, rule) ? 1 : 0);
    }

    // ---- the year, lived anew for every call

    private int done(int[] hours) {
        int set = 0;
        for (int k = 0; k < 15; k++) if (hours[k] >= needs[k]) set |= 1 << k;
        return set;
    }

    private void learn(Mind m, int age, int given) {
        m.gaps = 0;
        int left = age < 40 ? given : age < 60 ? (int) Math.floor(given * 0.75) : given / 2;
        while (left > 0) {
            int d = done(m.hours), open = NONE;
            for (int k = 14; k >= 0; k--) if ((d & 1 << k) == 0 && (leans[k] & d) == leans[k]) open = k;
            if (open == NONE) return;
            m.hours[open]++;
            left--;
        }
    }

    private void miss(Mind m) {
        m.gaps++;
        if (m.gaps <= fade) return;
        int d = done(m.hours);
        for (int k = 14; k >= 0; k--) {
            boolean leant = false;
            for (int j = 0; j < 15; j++) leant |= (d & 1 << j) != 0 && (leans[j] & 1 << k) != 0;
            if ((d & 1 << k) != 0 && !leant) {
                m.hours[k] = 0;
                return;
            }
        }
    }

    private long[] facts(int l, Mind m, int week) {
        int place = lamps.get(m.lamp), joined = 0, open = 0;
        for (Way w : ways) {
            if (w.a != place && w.b != place) continue;
            joined++;
            if (!w.shut(week)) open++;
        }
        Teacher t = teachers.get(litBy(m.lamp, week));
        Learner who = learners.get(l);
        return new long[] {who.age, t.tongues >> who.tongue & 1, manyAt(m.lamp, week), week,
            Integer.bitCount(done(m.hours)), joined > 0 && open == 0 ? 1 : 0, places.get(place)};
    }

    private static boolean excepted(Rule r, long[] f) { return r.unless != null && r.unless.apply(f); }

    Mind[] live(int until) {
        Mind[] minds = new Mind[learners.size()];
        for (int l = 0; l < minds.length; l++) minds[l] = new Mind();
        for (int week = 0; week <= until; week++) {
            int[] seats = new int[lamps.size()];
            for (int l = 0; l < minds.length; l++) {
                Mind m = minds[l];
                m.lamp = learnerLamp(l, week);
                m.lit = m.lamp != NONE && litBy(m.lamp, week) != NONE;
                m.may = false;
                m.taught = false;
                if (m.lit) attend(l, m, week, seats);
                if (m.taught) {
                    learn(m, learners.get(l).age, m.given);
                } else {
                    miss(m);
                }
            }
        }
        return minds;
    }

    private void attend(int l, Mind m, int week, int[] seats) {
        long[] f = facts(l, m, week);
        int shire = (int) f[6];
        List<Rule> mays = speaking(shire, week, "may");
        m.may = mays.isEmpty();
        for (Rule r : mays) m.may |= r.test.apply(f) && !excepted(r, f);
        if (!m.may || seats[m.lamp] >= room(shire, week)) return;
        seats[m.lamp]++;
        m.taught = true;
        List<Long> told = new ArrayList<>();
        for (Rule r : speaking(shire, week, "hours")) if (!excepted(r, f)) told.add(r.sum.applyAsLong(f));
        long most = told.stream().mapToLong(v -> v).max().orElse(6);
        m.given = (int) (most < 0 ? 0 : most > 60 ? 60 : most);
    }

    int taught(int learner, int week, int what) {
        if (!isLearner(learner) || !week(week) || !in(what, 0, 2)) return bad(1);
        Mind m = live(week)[learner];
        if (!m.lit || what == 2 && !m.taught) return bad(6);
        return ok(what == 0 ? (m.may ? 1 : 0) : what == 1 ? (m.taught ? 1 : 0) : m.given);
    }

    boolean lesson(int lesson, int need, int lean, int letter) {
        if (!in(lesson, 0, 14) || !in(need, 1, 60) || !in(letter, 0, 67108863)) return not(1);
        if (lean < 0 || lean >= 1 << lesson) return not(1);
        needs[lesson] = need;
        leans[lesson] = lean;
        letters[lesson] = letter;
        return fine();
    }

    boolean fade(int weeks) {
        if (!in(weeks, 1, 20)) return not(1);
        fade = weeks;
        return fine();
    }

    int knows(int learner, int week) {
        if (!isLearner(learner) || !week(week)) return bad(1);
        return ok(done(live(week)[learner].hours));
    }

    int hours(int learner, int lesson, int week) {
        if (!isLearner(learner) || !in(lesson, 0, 14) || !week(week)) return bad(1);
        return ok(live(week)[learner].hours[lesson]);
    }

    int gap(int learner, int week) {
        if (!isLearner(learner) || !week(week)) return bad(1);
        return ok(live(week)[learner].gaps);
    }

    int foretold(int learner, int week, int weeks, int hours) {
        if (!isLearner(learner) || !week(week) || !in(weeks, 0, 60) || !in(hours, 0, 60)) return bad(1);
        Mind m = live(week)[learner];
        for (int w = 0; w < weeks; w++) {
            if (hours > 0) learn(m, learners.get(learner).age, hours);
            else miss(m);
        }
        return ok(done(m.hours));
    }

    // ---- PROOFS: all ways from one word to the other, the first of the shortest

    static String word(long v) {
        String s = "";
        if (v <= 0) return "";
        while (v > 0) {
            long c = v % 32;
            if (c < 1 || c > 26) return "";
            s = (char) ('a' + c - 1) + s;
            v /= 32;
        }
        return s.length() > 8 ? "" : s;
    }

    int proof(int learner, int week, long told, long written) {
        if (!isLearner(learner) || !week(week) || word(told).isEmpty() || word(written).isEmpty()) return bad(1);
        if (proofs.size() == 60) return bad(4);
        proofs.add(new Proof(learner, week, word(told), word(written)));
        return ok(proofs.size() - 1);
    }

    /** The letters of the SLIPS, at most so many; null if there is no such way. */
    private static String slipsWithin(String told, String written, int most) {
        if (most < 0 || Math.abs(told.length() - written.length()) > most) return null;
        if (told.isEmpty() && written.isEmpty()) return "";
        if (!told.isEmpty() && !written.isEmpty()) {
            String mark = told.charAt(0) == written.charAt(0) ? "" : told.substring(0, 1);
            String rest = slipsWithin(told.substring(1), written.substring(1), most - mark.length());
            if (rest != null) return mark + rest;
        }
        if (!told.isEmpty()) {
            String rest = slipsWithin(told.substring(1), written, most - 1);
            if (rest != null) return told.charAt(0) + rest;
        }
        if (!written.isEmpty()) {
            String rest = slipsWithin(told, written.substring(1), most - 1);
            if (rest != null) return written.charAt(0) + rest;
        }
        return null;
    }

    static String slipsOf(Proof p) {
        for (int most = 0; ; most++) {
            String s = slipsWithin(p.told, p.written, most);
            if (s != null) return s;
        }
    }

    private int owedTo(Proof p, char letter) {
        for (int k = 0; k < 15; k++) {
            if ((letters[k] & 1 << (letter - 'a')) == 0) continue;
            int done = p.week == 0 ? 0 : done(live(p.week - 1)[p.learner].hours);
            return (done & 1 << k) == 0 ? k : NONE;
        }
        return NONE;
    }

    private boolean passed(Proof p) {
        return slipsOf(p).length() <= pass(places.get(learners.get(p.learner).home), p.week);
    }

    int slips(int proof, int what) {
        if (!in(proof, 0, proofs.size() - 1) || !in(what, 0, 3)) return bad(1);
        Proof p = proofs.get(proof);
        String s = slipsOf(p);
        if (what == 3) return ok(passed(p) ? 1 : 0);
        if (what == 0) return ok(s.length());
        int owed = 0;
        for (char c : s.toCharArray()) if (owedTo(p, c) != NONE) owed++;
        return ok(what == 1 ? owed : s.length() - owed);
    }

    int owed(int proof, int lesson) {
        if (!in(proof, 0, proofs.size() - 1) || !in(lesson, 0, 14)) return bad(1);
        Proof p = proofs.get(proof);
        int n = 0;
        for (char c : slipsOf(p).toCharArray()) if (owedTo(p, c) == lesson) n++;
        return ok(n);
    }

    private boolean reading(int learner, int week) {
        for (int w = week; w >= 0; w--) {
            for (int i = proofs.size() - 1; i >= 0; i--) {
                Proof p = proofs.get(i);
                if (p.learner == learner && p.week == w) return passed(p);
            }
        }
        return false;
    }

    int reads(int learner, int week) {
        if (!isLearner(learner) || !week(week)) return bad(1);
        return ok(reading(learner, week) ? 1 : 0);
    }

    int flag(int place, int week) {
        if (!isPlace(place) || !week(week)) return bad(1);
        int all = 0, some = 0;
        for (int l = 0; l < learners.size(); l++) {
            if (learners.get(l).home != place) continue;
            all++;
            if (reading(l, week)) some++;
        }
        if (all == 0) return ok(0);
        return ok(some * 100 >= last(places.get(place), week, "flag", 100) * all ? 1 : 0);
    }

    // ---- SENT: all orders of the TEACHERS

    int send(int lampTray, int teacherTray, int many, int week) {
        if (!in(lampTray, 0, 3) || !in(teacherTray, 0, 3) || !in(many, 1, 7) || !week(week)) return bad(1);
        if (trays[lampTray] == null || trays[teacherTray] == null) return bad(2);
        if (trays[lampTray].length < many || trays[teacherTray].length < many) return bad(3);
        Set<Long> seenLamps = new HashSet<>(), seenTeachers = new HashSet<>();
        for (int k = 0; k < many; k++) {
            long l = trays[lampTray][k], t = trays[teacherTray][k];
            if (!in(l, 0, lamps.size() - 1) || !seenLamps.add(l)) return bad(1);
            if (!in(t, 0, teachers.size() - 1) || !seenTeachers.add(t)) return bad(1);
        }
        int[] byNumber = seenTeachers.stream().mapToInt(Long::intValue).sorted().toArray();
        int[][] cost = new int[many][many];
        for (int k = 0; k < many; k++) {
            for (int t = 0; t < many; t++) cost[k][t] = travel((int) trays[lampTray][k], byNumber[t], week);
        }
        best = null;
        tryAll(cost, new int[many], 0, 0, 0, 0);
        if (best == null) return bad(6);
        sent = new int[many];
        for (int k = 0; k < many; k++) sent[k] = byNumber[best[k + 2]];
        return ok(best[0]);
    }

    private int[] best;

    /** TEACHERS in rising order, so that the first of equal ways has the lesser ones. */
    private void tryAll(int[][] cost, int[] chosen, int k, int used, int worst, int sum) {
        if (k == chosen.length) {
            if (best == null || worst < best[0] || worst == best[0] && sum < best[1]) {
                best = new int[k + 2];
                best[0] = worst;
                best[1] = sum;
                System.arraycopy(chosen, 0, best, 2, k);
            }
            return;
        }
        for (int t = 0; t < chosen.length; t++) {
            if ((used & 1 << t) != 0 || cost[k][t] == NONE) continue;
            chosen[k] = t;
            tryAll(cost, chosen, k + 1, used | 1 << t, Math.max(worst, cost[k][t]), sum + cost[k][t]);
        }
    }

    private int travel(int lamp, int teacher, int week) {
        int[] speakers = new int[5];
        for (int l = 0; l < learners.size(); l++) {
            if (learnerLamp(l, week) == lamp) speakers[learners.get(l).tongue]++;
        }
        int most = Arrays.stream(speakers).max().getAsInt();
        if (most > 0) {
            int tongue = 0;
            while (speakers[tongue] != most) tongue++;
            if ((teachers.get(teacher).tongues & 1 << tongue) == 0) return NONE;
        }
        return first(teachers.get(teacher).place, lamps.get(lamp), week);
    }

    int sent(int k) {
        if (k < 0) return bad(1);
        return k >= sent.length ? bad(6) : ok(sent[k]);
    }

    private static BigInteger choose(int n, int k) {
        if (k < 0 || k > n) return BigInteger.ZERO;
        BigInteger v = BigInteger.ONE;
        for (int i = 0; i < k; i++) v = v.multiply(BigInteger.valueOf(n - i)).divide(BigInteger.valueOf(i + 1));
        return v;
    }

    int count(int all, int drawn, int found, int what) {
        if (!in(all, 1, 60) || !in(drawn, 1, all) || !in(found, 0, drawn) || !in(what, 0, 1)) return bad(1);
        int low = NONE, high = NONE;
        for (int r = 0; r <= all; r++) {
            BigInteger sum = BigInteger.ZERO;
            for (int k = 0; k <= drawn; k++) {
                if (what == 0 ? k < found : k > found) continue;
                sum = sum.add(choose(r, k).multiply(choose(all - r, drawn - k)));
            }
            if (sum.multiply(BigInteger.valueOf(20)).compareTo(choose(all, drawn)) > 0) {
                if (low == NONE) low = r;
                high = r;
            }
        }
        return ok(what == 0 ? low : high);
    }

    int near(int lamp, int week) {
        if (!isLamp(lamp) || !week(week)) return bad(1);
        if (litBy(lamp, week) != NONE) return bad(7);
        int bestLamp = NONE, soonest = 99;
        for (int o = lamps.size() - 1; o >= 0; o--) {
            int w = first(lamps.get(lamp), lamps.get(o), week);
            if (w == NONE || litBy(o, week) == NONE) continue;
            if (manyAt(o, week) >= room(places.get(lamps.get(o)), week)) continue;
            if (w <= soonest) {
                soonest = w;
                bestLamp = o;
            }
        }
        return bestLamp == NONE ? bad(6) : ok(bestLamp);
    }
}

/** The edges of promises 20 to 22, sentence by sentence: which rules stand, what they say, who is taught. */
public final class EdgeTaughtTest {
    private static final int NONE = LampYear.NONE;

    private EdgeTaughtTest() {
    }

    public static void main(String[] args) {
        oneBehindTheOther();
        byTheWeekTheyBegan();
        struckRules();
        lastThatTells();
        rulesThatCant();
        struckThatCant();
        variables();
        many();
        rain();
        mayBeTaught();
        firstByNumber();
        hours();
        testing();
        reckoning();
        dividing();
        taughtThatCant();
        Due.end();
    }

    private static void oneBehindTheOther() {
        Due.says("In a SHIRE in a WEEK the RULES of all TEXTS that are in force there then stand one behind the other: "
                + "TEXTS by the WEEK they began, of like ones as they were told, each by its text; numbered so from 0.");
        // five TEXTS of twenty RULES; the last RULE of all strikes "a", with which each TEXT begins
        LampYear x = new LampYear();
        for (int t = 0; t < 5; t++) {
            StringBuilder s = new StringBuilder();
            for (char c = 'a'; c < 'u'; c++) {
                s.append(c).append(t == 4 && c == 't' ? " strikes a" : "").append(":pass ").append(t).append(';');
            }
            Due.is(x, "TEXT " + t, Due.orders(x, s.toString(), 0, 15), 20);
        }
        Due.is(x, "RULES", x.rules(0, 0, 0), 100);
        for (int r = 0; r < 100; r++) {
            Due.is(x, "RULE " + r, x.struck(3, 59, r), r % 20 == 0 ? 1 : 0);
        }
        Due.none(x, "RULE 100", x.struck(0, 0, 100), 1);
        Due.is(x, "PASS", x.rules(0, 0, 2), 4);
        LampYear y = new LampYear();
        Due.is(y, "no TEXT", y.rules(0, 0, 0), 0);
        Due.none(y, "RULE 0", y.struck(0, 0, 0), 1);
        y.orders(0, 0, 15);
        Due.is(y, "an empty TEXT", y.rules(0, 0, 0), 0);
        Due.none(y, "RULE 0", y.struck(0, 0, 0), 1);
        Due.orders(y, "a:room 1;", 0, 15);
        Due.is(y, "RULE 0", y.struck(0, 0, 0), 0);
    }

    /** TEXT t says ROOM t + 1 and strikes the LABEL of TEXT t + 1: so it can be seen which stands ahead of which. */
    private static LampYear began(int... weeks) {
        LampYear x = new LampYear();
        for (int t = 0; t < weeks.length; t++) {
            String label = "" + (char) ('a' + t);
            String strikes = "" + (char) ('a' + (t + 1) % weeks.length);
            Due.orders(x, label + " strikes " + strikes + ":room " + (t + 1) + ";", weeks[t], 1);
        }
        return x;
    }

    private static void rows(LampYear x, int week, int... struck) {
        Due.is(x, "RULES in WEEK " + week, x.rules(0, week, 0), struck.length);
        for (int r = 0; r < struck.length; r++) {
            Due.is(x, "RULE " + r + " in WEEK " + week, x.struck(0, week, r), struck[r]);
        }
        Due.none(x, "behind the last", x.struck(0, week, struck.length), 1);
    }

    private static void byTheWeekTheyBegan() {
        // told in order: c strikes a, so a alone is STRUCK
        LampYear x = began(5, 5, 5);
        rows(x, 4);
        rows(x, 5, 1, 0, 0);
        // the first one began last: b, c, a stand so, c strikes a which is behind, a strikes b
        x = began(59, 0, 0);
        rows(x, 0, 0, 0);
        rows(x, 58, 0, 0);
        rows(x, 59, 1, 0, 0);
        Due.is(x, "ROOM of a", x.rules(0, 59, 1), 1);
        // the last one began first: c, a, b stand so; b strikes c
        x = began(1, 1, 0);
        rows(x, 0, 0);
        rows(x, 1, 1, 0, 0);
        Due.is(x, "ROOM of b", x.rules(0, 1, 1), 2);
        // from the last to the first: c, b, a stand so; b strikes c, a strikes b
        x = began(2, 1, 0);
        rows(x, 1, 1, 0);
        rows(x, 2, 1, 1, 0);
        Due.is(x, "ROOM of a", x.rules(0, 2, 1), 1);
        // a TEXT of another SHIRE does not stand here, nor strike
        x = new LampYear();
        Due.orders(x, "a:room 1;", 0, 3);
        Due.orders(x, "b strikes a:room 2;", 0, 2);
        Due.is(x, "SHIRE 0", x.struck(0, 0, 0), 0);
        Due.is(x, "SHIRE 1", x.struck(1, 0, 0), 1);
        Due.is(x, "SHIRE 1", x.struck(1, 0, 1), 0);
    }

    private static void struckRules() {
        Due.says("A RULE is STRUCK, if one behind it (that is struck or not) strikes its LABEL; it says nothing then.");
        LampYear x = new LampYear();
        Due.orders(x, "a strikes b:room 1;b strikes a:room 2;c strikes c:room 3;d strikes b:room 4;e strikes d:room 5;"
                + "f strikes g:room 6;g strikes f:room 7;", 0, 1);
        // a by b, which is STRUCK itself; b by d, which is STRUCK by e; c strikes none but itself; f by g; g by none behind it
        rows(x, 0, 1, 1, 0, 1, 0, 1, 0);
        Due.is(x, "ROOM of g", x.rules(0, 0, 1), 7);
        LampYear y = new LampYear();
        Due.orders(y, "abcdefgh:room 1;abcdefgi:room 2;z strikes abcdefgh:pass 1;", 0, 1);
        rows(y, 0, 1, 0, 0);
        Due.orders(y, "z strikes abcdefgi:pass 2;", 1, 1);
        rows(y, 1, 1, 1, 0, 0);
        Due.is(y, "both STRUCK: ROOM without", y.rules(0, 1, 1), 40);
        Due.is(y, "ahead of it", y.rules(0, 0, 1), 2);
        // all RULES of one LABEL that stand ahead are STRUCK, and those behind are not
        LampYear z = new LampYear();
        Due.orders(z, "a:room 1;", 0, 1);
        Due.orders(z, "a:room 2;b strikes a:pass 1;", 0, 1);
        Due.orders(z, "a:room 3;", 0, 1);
        rows(z, 0, 1, 1, 0, 0);
    }

    private static void lastThatTells() {
        Due.says("ROOM is what the last RULE that tells one says (40 without); PASS likewise (0 without), FLAG (100 without).");
        LampYear x = new LampYear();
        String[] does = {"room", "pass", "flag"};
        int[] without = {40, 0, 100};
        for (int k = 0; k < 3; k++) {
            Due.is(x, does[k] + " without", x.rules(0, 0, k + 1), without[k]);
            LampYear y = new LampYear();
            Due.orders(y, "a:" + does[k] + " 5;b:" + does[k] + " 3;c:may 1=1;d:hours 1;", 0, 1);
            for (int j = 0; j < 3; j++) {
                Due.is(y, does[k] + ": " + does[j], y.rules(0, 0, j + 1), j == k ? 3 : without[j]);
            }
            Due.orders(y, "b strikes b:pass 1;", 1, 1);
            Due.is(y, "the last is STRUCK", y.rules(0, 1, k + 1), k == 1 ? 1 : 5);
            Due.orders(y, "b strikes a:pass 1;", 2, 1);
            Due.is(y, "all are STRUCK", y.rules(0, 2, k + 1), k == 1 ? 1 : without[k]);
        }
    }

    private static void rulesThatCant() {
        Due.says("In a SHIRE in a WEEK, what 0: how many RULES stand, 1: ROOM, 2: PASS, 3: FLAG (1).");
        Edge.ints("rules: SHIRE", World.RICH, 0, 3, (x, v) -> x.rules(v, 0, 0));
        Edge.ints("rules: WEEK", World.RICH, 0, 59, (x, v) -> x.rules(0, v, 0));
        Edge.ints("rules: what", World.RICH, 0, 3, (x, v) -> x.rules(0, 0, v));
        LampYear x = World.RICH.make();
        int[][] want = {{0, 7, 5, 3, 1, 60}, {0, 8, 8, 2, 2, 60}, {1, 59, 5, 3, 1, 60}, {2, 8, 8, 2, 2, 60}, {3, 8, 5, 3, 1, 60}};
        for (int[] w : want) {
            for (int what = 0; what < 4; what++) {
                Due.is(x, "SHIRE " + w[0] + ", WEEK " + w[1] + ", what " + what, x.rules(w[0], w[1], what), w[what + 2]);
            }
        }
    }

    private static void struckThatCant() {
        Due.says("Whether a RULE (by its number there then) is STRUCK: 1 or 0 (1).");
        Edge.ints("struck: RULE of five", World.RICH, 0, 4, (x, v) -> x.struck(0, 7, v));
        Edge.ints("struck: RULE of eight", World.RICH, 0, 7, (x, v) -> x.struck(0, 8, v));
        Edge.ints("struck: SHIRE", World.RICH, 0, 3, (x, v) -> x.struck(v, 0, 0));
        Edge.ints("struck: WEEK", World.RICH, 0, 59, (x, v) -> x.struck(0, v, 0));
        Edge.none("struck: none stand", World.NEW, x -> x.struck(0, 0, 0), 1);
        // in WEEK 8 "f strikes c" and "g strikes d" stand in SHIRES 0 and 2
        LampYear x = World.RICH.make();
        rows(x, 7, 0, 0, 0, 0, 0);
        rows(x, 8, 0, 0, 1, 1, 0, 0, 0, 0);
        Due.is(x, "SHIRE 1", x.struck(1, 8, 2), 0);
        Due.is(x, "SHIRE 2", x.struck(2, 8, 2), 1);
    }

    /** HOURS by one RULE of a SUM in a PLACE of a SHIRE. */
    private static LampYear taughtBy(int shire, String sum) {
        LampYear x = new LampYear();
        x.place(shire);
        x.lamp(0);
        x.teacher(1, 0);
        x.learner(0, 30, 0);
        x.note(0, 0, 0, 0, 59, 0);
        x.note(1, 0, 0, 0, 59, 0);
        Due.orders(x, "a:hours " + sum + ";", 0, 15);
        return x;
    }

    private static void variables() {
        Due.says("Of a LEARNER at a LIT LAMP in a WEEK: age; tongue 1 if the TEACHER has the TONGUE, else 0; "
                + "many, how many LEARNERS' LAMP it is; week; done, how many LESSONS (3) the LEARNER has ahead of that WEEK; "
                + "rain 1 if all WAYS of its PLACE are SHUT then (there is one at least), else 0; shire, of the LAMP's PLACE.");
        for (int shire = 0; shire < 4; shire++) {
            Due.is("shire", taughtBy(shire, "10+shire").taught(0, 0, 2), 10 + shire);
        }
        for (int week : new int[] {0, 1, 58, 59}) {
            Due.is("week", taughtBy(0, "week").taught(0, week, 2), week);
        }
        LampYear x = taughtBy(0, "30+done");
        int[][] want = {{0, 30}, {1, 35}, {2, 40}, {3, 45}, {4, 45}, {59, 45}};
        for (int[] w : want) {
            // 30 hours are five LESSONS, 35 are five more and a part, 40 the last five
            Due.is(x, "done ahead of WEEK " + w[0], x.taught(0, w[0], 2), w[1]);
        }
        // it is the TEACHER's TONGUES that count who is the least at the LAMP
        LampYear y = taughtBy(0, "10+tongue");
        y.teacher(31, 0);
        y.learner(0, 30, 4);
        y.note(0, 1, 0, 0, 59, 0);
        y.note(1, 1, 0, 0, 59, 0);
        Due.is(y, "TONGUE 0", y.taught(0, 0, 2), 11);
        Due.is(y, "TONGUE 4", y.taught(1, 0, 2), 10);
        y.note(3, 0, NONE, 1, 1, 0);
        Due.is(y, "TONGUE 4 with the other TEACHER", y.taught(1, 1, 2), 11);
    }

    private static void many() {
        LampYear x = World.school();
        for (int i = 0; i < 40; i++) {
            x.learner(0, 9, 0);
            x.note(1, i, 0, i, 59, 0);
        }
        x.lamp(0);
        Due.orders(x, "a:hours many;", 0, 1);
        Due.is(x, "one", x.taught(0, 0, 2), 1);
        Due.is(x, "two", x.taught(1, 1, 2), 2);
        Due.is(x, "forty", x.taught(0, 39, 2), 40);
        Due.is(x, "forty, of the last", x.taught(39, 59, 2), 40);
        x.note(2, 5, NONE, 50, 50, 0);
        x.note(1, 6, 1, 50, 50, 0);
        Due.is(x, "one AWAY, one at another LAMP", x.taught(0, 50, 2), 38);
        Due.orders(x, "b:may age<5 or many=38;c:room 1;", 0, 1);
        Due.is(x, "who is not TAUGHT counts, too", x.taught(0, 50, 2), 38);
        Due.is(x, "nobody may then", x.taught(0, 49, 0), 0);
    }

    private static void rain() {
        LampYear x = taughtBy(0, "10+rain");
        x.place(0);
        x.place(0);
        Due.is(x, "no WAY at all", x.taught(0, 7, 2), 10);
        x.way(1, 2, 1, 0, 59);
        Due.is(x, "a WAY of other PLACES", x.taught(0, 7, 2), 10);
        x.way(1, 0, 1, 7, 9);
        int[][] want = {{6, 10}, {7, 11}, {9, 11}, {10, 10}};
        for (int[] w : want) {
            Due.is(x, "one WAY, WEEK " + w[0], x.taught(0, w[0], 2), w[1]);
        }
        x.way(0, 2, 1, 9, 20);
        int[][] both = {{7, 10}, {8, 10}, {9, 11}, {10, 10}};
        for (int[] w : both) {
            Due.is(x, "two WAYS, WEEK " + w[0], x.taught(0, w[0], 2), w[1]);
        }
        LampYear y = taughtBy(0, "10+rain");
        y.place(0);
        y.way(0, 1, 1, NONE, NONE);
        Due.is(y, "a WAY that is never SHUT", y.taught(0, 0, 2), 10);
        LampYear z = taughtBy(0, "10+rain");
        z.place(0);
        z.way(0, 1, 1, 0, 59);
        Due.is(z, "WEEK 0 of all", z.taught(0, 0, 2), 11);
        Due.is(z, "WEEK 59 of all", z.taught(0, 59, 2), 11);
        LampYear u = taughtBy(0, "10+rain");
        u.place(0);
        Due.is(u, "no WAY yet", u.taught(0, 0, 2), 10);
        u.way(0, 1, 1, 0, 0);
        Due.is(u, "a WAY that was told later", u.taught(0, 0, 2), 11);
    }

    private static LampYear schoolBy(String rules) {
        LampYear x = World.school(30);
        Due.orders(x, rules, 0, 1);
        Due.is("a TEXT without FAULT: " + rules, x.fault(0), 0);
        return x;
    }

    private static int may(String rules) {
        return schoolBy(rules).taught(0, 0, 0);
    }

    private static void mayBeTaught() {
        Due.says("A LEARNER may be taught there, if some may holds there (one with unless: if that does not); "
                + "without any RULE of that sort that is not STRUCK all may.");
        Due.is("no RULE", may(""), 1);
        Due.is("RULES of other sorts alone", may("a:hours 1;b:room 1;c:pass 1;d:flag 1;"), 1);
        Due.is("one that holds", may("a:may 1=1;"), 1);
        Due.is("one that does not", may("a:may 1=2;"), 0);
        Due.is("the first holds", may("a:may 1=1;b:may 1=2;"), 1);
        Due.is("the last holds", may("a:may 1=2;b:may 1=2;c:may 1=1;"), 1);
        Due.is("none holds", may("a:may 1=2;b:may 1=2;c:may 1=2;"), 0);
        Due.is("unless that does not hold", may("a:may 1=1 unless 1=2;"), 1);
        Due.is("unless that holds", may("a:may 1=1 unless 1=1;"), 0);
        Due.is("unless of another one", may("a:may 1=1 unless 1=1;b:may 1=1;"), 1);
        Due.is("neither holds", may("a:may 1=2 unless 1=2;"), 0);
        Due.is("the one that holds is STRUCK", may("a:may 1=1;b strikes a:may 1=2;"), 0);
        Due.is("the one that does not is STRUCK", may("a:may 1=2;b strikes a:room 1;"), 1);
        Due.is("all are STRUCK", may("a:may 1=2;b:may 1=2;c strikes a:room 1;d strikes b:room 1;"), 1);
        LampYear x = World.school(30);
        Due.orders(x, "a:may 1=2;b:hours 1;", 0, 1);
        Due.orders(x, "c strikes a:room 1;d strikes b:hours 2;", 5, 1);
        Due.orders(x, "e:may 1=2;f strikes d:room 1;", 6, 1);
        int[][] want = {{0, 0, NONE}, {5, 1, 2}, {4, 0, NONE}, {6, 0, NONE}, {5, 1, 2}, {59, 0, NONE}};
        for (int[] w : want) {
            Due.is(x, "what stands in WEEK " + w[0], x.taught(0, w[0], 0), w[1]);
            Due.is("HOURS by what stands in WEEK " + w[0], x.taught(0, w[0], 2), w[2]);
        }
        Due.is("age at its edge", may("a:may age<30;"), 0);
        Due.is("age at its edge", may("a:may age<31;"), 1);
        Due.is("age at its edge", may("a:may age>30;"), 0);
        Due.is("age at its edge", may("a:may age>29;"), 1);
        Due.is("age at its edge", may("a:may age=30;"), 1);
    }

    private static void firstByNumber() {
        Due.says("TAUGHT are of those who may the first ROOM by number.");
        for (int room : new int[] {1, 2, 39, 40}) {
            LampYear x = World.school();
            for (int i = 0; i < 40; i++) {
                x.learner(0, 9, 0);
                // told from the last to the first: it is the number that counts
            }
            for (int i = 39; i >= 0; i--) {
                x.note(1, i, 0, 0, 59, 0);
            }
            Due.orders(x, "a:room " + room + ";", 0, 1);
            for (int i = 0; i < 40; i++) {
                Due.is(x, "ROOM " + room + ": LEARNER " + i, x.taught(i, 0, 1), i < room ? 1 : 0);
                Due.is(x, "all may", x.taught(i, 0, 0), 1);
            }
        }
        LampYear y = World.school(10, 20, 10, 20, 10);
        Due.orders(y, "a:may age=10;b:room 2;", 0, 1);
        int[] taught = {1, 0, 1, 0, 0};
        for (int i = 0; i < 5; i++) {
            Due.is(y, "of those who may: LEARNER " + i, y.taught(i, 0, 1), taught[i]);
        }
        LampYear z = World.school();
        for (int i = 0; i < 40; i++) {
            z.learner(0, 9, 0);
            z.note(1, i, 0, 0, 59, 0);
        }
        Due.is(z, "without a RULE: the 40th", z.taught(39, 0, 1), 1);
    }

    private static int hoursBy(String rules) {
        return schoolBy(rules).taught(0, 0, 2);
    }

    private static void hours() {
        Due.says("HOURS of a LEARNER who is TAUGHT: the greatest of all hours RULES there (of one with unless: if that does not "
                + "hold), cut to 0 and 60; 6 without any that tells.");
        Due.is("no RULE", hoursBy(""), 6);
        Due.is("0", hoursBy("a:hours 0;"), 0);
        Due.is("60", hoursBy("a:hours 60;"), 60);
        Due.is("61", hoursBy("a:hours 61;"), 60);
        Due.is("9999", hoursBy("a:hours 9999;"), 60);
        Due.is("-1", hoursBy("a:hours 0-1;"), 0);
        Due.is("-60", hoursBy("a:hours 0-60;"), 0);
        Due.is("2^32 is above 60", hoursBy("a:hours 4096*4096*256;"), 60);
        Due.is("2^32 + 5 is above 60", hoursBy("a:hours 4096*4096*256+5;"), 60);
        Due.is("-2^32 + 5 is below 0", hoursBy("a:hours 5-4096*4096*256;"), 0);
        Due.is("the greatest number", hoursBy("a:hours 4096*4096*4096*4096*4096*8-1;"), 60);
        Due.is("the least number", hoursBy("a:hours 4096*4096*4096*4096*4096*8;"), 0);
        Due.is("the first is the greatest", hoursBy("a:hours 5;b:hours 4;c:hours 3;"), 5);
        Due.is("the last is the greatest", hoursBy("a:hours 3;b:hours 4;c:hours 5;"), 5);
        Due.is("the greatest of those below 0", hoursBy("a:hours 0-1;b:hours 0-2;"), 0);
        Due.is("one below 0 and one above", hoursBy("a:hours 0-9;b:hours 2;"), 2);
        Due.is("one above 60 and one below", hoursBy("a:hours 99;b:hours 2;"), 60);
        Due.is("less than 6", hoursBy("a:hours 5;"), 5);
        Due.is("unless that holds", hoursBy("a:hours 9 unless 1=1;"), 6);
        Due.is("unless that does not", hoursBy("a:hours 9 unless 1=2;"), 9);
        Due.is("the greatest with unless that holds", hoursBy("a:hours 9 unless 1=1;b:hours 2;"), 2);
        Due.is("STRUCK", hoursBy("a:hours 9;b strikes a:hours 2;"), 2);
        Due.is("all STRUCK", hoursBy("a:hours 9;b strikes a:room 2;"), 6);
    }

    private static void holds(String test, int want) {
        Due.is("may " + test, may("a:may " + test + ";"), want);
    }

    private static void testing() {
        Due.says("ONE: [not] SUM COMPARES SUM.");
        holds("not 1=1", 0);
        holds("not 1=2", 1);
        holds("not 1<2", 0);
        holds("not 1>2", 1);
        holds("not 1+1=2", 0);
        Due.says("COMPARES: < or > or =");
        int[][] want = {{1, 2, 1, 0, 0}, {2, 2, 0, 0, 1}, {2, 1, 0, 1, 0}};
        for (int[] w : want) {
            holds(w[0] + "<" + w[1], w[2]);
            holds(w[0] + ">" + w[1], w[3]);
            holds(w[0] + "=" + w[1], w[4]);
            holds("0-" + w[1] + "<0-" + w[0], w[2]);
        }
        Due.says("PART: ONE {and ONE}.");
        Due.says("TEST: PART {or PART}.");
        String[] ones = {"1=2", "1=1"};
        for (int i = 0; i < 8; i++) {
            int a = i & 1;
            int b = i >> 1 & 1;
            int c = i >> 2;
            holds(ones[a] + " and " + ones[b], a & b);
            holds(ones[a] + " or " + ones[b], a | b);
            holds(ones[a] + " and " + ones[b] + " or " + ones[c], a & b | c);
            holds(ones[a] + " or " + ones[b] + " and " + ones[c], a | b & c);
            holds(ones[a] + " or " + ones[b] + " or " + ones[c], a | b | c);
            holds(ones[a] + " and " + ones[b] + " and " + ones[c], a & b & c);
            holds("not " + ones[a] + " and " + ones[b] + " or " + ones[c], (1 - a) & b | c);
            holds(ones[a] + " or not " + ones[b] + " and " + ones[c], a | (1 - b) & c);
            holds(ones[a] + " or " + ones[b] + " unless " + ones[c], (a | b) & (1 - c));
            holds(ones[a] + " and " + ones[b] + " unless " + ones[c], a & b & (1 - c));
            holds(ones[a] + " unless " + ones[b] + " or " + ones[c], a & (1 - (b | c)));
            holds(ones[a] + " unless not " + ones[b] + " and " + ones[c], a & (1 - ((1 - b) & c)));
        }
        Due.says("SUM: ITEM {+ ITEM, or - ITEM}.");
        holds("9-4-3=2", 1);
        holds("9-(4-3)=8", 1);
        holds("9-4+3=8", 1);
        holds("1+2+3-4-5=0-3", 1);
        Due.says("ITEM: ATOM {* ATOM, or / ATOM}.");
        holds("2+3*4=14", 1);
        holds("2*3+4=10", 1);
        holds("20-8/4*2=16", 1);
        holds("100/5/2=10", 1);
        holds("100/(5/2)=50", 1);
        holds("7/2*2=6", 1);
        Due.says("ATOM: NUMBER, a VARIABLE, or ( SUM ).");
        holds("(2+3)*4=20", 1);
        holds("2*(3+4)-((5))=9", 1);
        holds("age*(age-29)=30", 1);
    }

    private static void reckoning() {
        Due.says("NUMBERS are of 64 bits, round on; / as the machine's (towards 0), by 0 it is 0.");
        String least = "4096*4096*4096*4096*4096*8";
        holds(least + "<0", 1);
        holds(least + "-1>0", 1);
        holds(least + "-1+1<0", 1);
        holds(least + "-1+1=" + least, 1);
        holds("0-" + least + "=" + least, 1);
        holds(least + "*2=0", 1);
        holds(least + "+" + least + "=0", 1);
        holds("(" + least + ")*(0-1)=" + least, 1);
        holds("(" + least + "-1)*2=0-2", 1);
        holds("4096*4096*4096*4096*4096*4>0", 1);
        holds("4096*4096*128=2147*1000*1000+483*1000+648", 1);
        holds("4096*4096*128>0", 1);
        holds("4096*4096*256>0", 1);
        holds("9999*9999=9998*9999+9999", 1);
        // 9999^5 less five times 2^64 is 7716289630452291919
        holds("9999*9999*9999*9999*9999/1000/1000/1000/1000/1000/1000=7", 1);
    }

    private static void dividing() {
        String least = "4096*4096*4096*4096*4096*8";
        holds("7/2=3", 1);
        holds("(0-7)/2=0-3", 1);
        holds("7/(0-2)=0-3", 1);
        holds("(0-7)/(0-2)=3", 1);
        holds("1/2=0", 1);
        holds("(0-1)/2=0", 1);
        holds("0/5=0", 1);
        holds("5/5=1", 1);
        holds("5/0=0", 1);
        holds("(0-5)/0=0", 1);
        holds("0/0=0", 1);
        holds("5/(1-1)*7+2=2", 1);
        holds("5/(week*2)=0", 1);
        holds("5/(rain+0)=0", 1);
        holds("100/7/0=0", 1);
        holds("(" + least + ")/(0-1)=" + least, 1);
        holds("(" + least + ")/1=" + least, 1);
        holds("(" + least + ")/0=0", 1);
        holds("(" + least + "-1)/(0-1)=" + least + "+1", 1);
    }

    private static void taughtThatCant() {
        Due.says("Of a LEARNER in a WEEK, what 0: whether it may be taught at its LAMP, 1: whether it is TAUGHT: 1 or 0; "
                + "2: HOURS (1; 6: it has no LAMP, or that is not LIT; for 2: it is not TAUGHT).");
        Edge.ints("taught: LEARNER", World.RICH, 0, World.LEARNERS - 1, (x, v) -> x.taught(v, 5, 0));
        Edge.ints("taught: what", World.RICH, 0, 2, (x, v) -> x.taught(0, 5, v));
        for (int what = 0; what < 3; what++) {
            int w = what;
            Edge.none("taught: AWAY, what " + w, World.RICH, x -> x.taught(0, 10, w), 6);
            Edge.none("taught: not LIT, what " + w, World.RICH, x -> x.taught(2, 6, w), 6);
            Edge.none("taught: not LIT, what " + w, World.RICH, x -> x.taught(3, 4, w), 6);
            Edge.none("taught: 1 ahead of 6, what " + w, World.RICH, x -> x.taught(World.LEARNERS, 10, w), 1);
        }
        Edge.none("taught: 1 ahead of 6", World.RICH, x -> x.taught(0, 10, 3), 1);
        // in WEEK 5 LEARNERS 0, 1, 4 and 5 are at LAMP 0 with ROOM 3; 5 is 99 and has the TONGUE
        LampYear x = World.RICH.make();
        Due.is(x, "may", x.taught(5, 5, 0), 1);
        Due.is(x, "but there is no ROOM", x.taught(5, 5, 1), 0);
        Due.none(x, "so it has no HOURS", x.taught(5, 5, 2), 6);
        LampYear y = World.school(30);
        Due.orders(y, "a:may 1=2;", 0, 1);
        Due.is(y, "may not", y.taught(0, 0, 0), 0);
        Due.is(y, "so it is not TAUGHT", y.taught(0, 0, 1), 0);
        Due.none(y, "and has no HOURS", y.taught(0, 0, 2), 6);
    }
}

/** Promises 17 to 22: feed, orders, fault, rules, struck, taught. */
public final class OrdersTest {
    private static final int NONE = LampYear.NONE;

    private OrdersTest() {
    }

    public static void main(String[] args) {
        tape();
        ordersThatCant();
        fiveTexts();
        tokens();
        noToken();
        cantStand();
        labels();
        twentyRules();
        brackets();
        numbersThatCant();
        firstFault();
        standing();
        orderOfTexts();
        struckRules();
        lastWord();
        reckoning();
        variables();
        rain();
        mayBeTaught();
        seats();
        hoursTold();
        taughtThatCant();
        Due.end();
    }

    private static LampYear fresh() {
        return new LampYear();
    }

    private static void tape() {
        LampYear x = fresh();
        x.place(9);
        for (int n = 20; n <= 600; n += 20) {
            Due.is("feed", x.feed(0x20202020, 0x20202020, 0x20202020, 0x20202020, 0x20202020), n);
        }
        Due.is("feed beyond 600", x.feed(1, 1, 1, 1, 1), NONE);
        Due.is("feed has no STATUS", x.status(), 1);
        Due.none(x, "601 of 600", x.orders(601, 0, 1), 1);
        Due.is(x, "600 blanks", x.orders(600, 0, 1), 0);
        Due.is("an empty tape again", x.feed(0x613A706F, 0, 0, 0, 0), 20);
        // the highest byte first: "a:po" has its FAULT behind the colon
        Due.none(x, "a:po", x.orders(4, 0, 1), 9);
        Due.is("fault", x.fault(1), 2);
        Due.is("the rest is gone, too", x.feed(0, 0, 0, 0, 0), 20);
    }

    private static void ordersThatCant() {
        LampYear x = fresh();
        int n = Due.feed(x, "a:room 3;");
        Due.none(x, "n -1", x.orders(-1, 0, 1), 1);
        Due.none(x, "n 21", x.orders(21, 0, 1), 1);
        Due.none(x, "WEEK 60", x.orders(n, 60, 1), 1);
        Due.none(x, "WEEK -1", x.orders(n, -1, 1), 1);
        Due.none(x, "no SHIRES", x.orders(n, 0, 0), 1);
        Due.none(x, "SHIRES 16", x.orders(n, 0, 16), 1);
        Due.is("no fault by these", x.fault(0), NONE);
        Due.is(x, "the tape is as it was", x.orders(n, 0, 1), 1);
        Due.is("no fault", x.fault(0), 0);
        Due.is("without a place", x.fault(1), NONE);
        Due.is("fault(2)", x.fault(2), NONE);
        Due.is("fault(-1)", x.fault(-1), NONE);
        Due.is(x, "an empty TEXT", x.orders(0, 0, 1), 0);
        Due.none(x, "a faulty one", Due.orders(x, "a", 0, 1), 9);
        Due.none(x, "one with STATUS 1", x.orders(0, 60, 1), 1);
        Due.is("fault() tells of the latest with STATUS 0 or 9", x.fault(0), 2);
        Due.is("and its place", x.fault(1), 1);
        Due.is(x, "a faulty one changes no RULES", x.rules(0, 59, 0), 1);
    }

    private static void fiveTexts() {
        LampYear x = fresh();
        for (int i = 0; i < 5; i++) {
            Due.none(x, "faulty ones don't count", Due.orders(x, "?", 0, 1), 9);
            Due.is(x, "TEXT " + i, Due.orders(x, "a:pass " + i + ";", 0, 1), 1);
        }
        int n = Due.feed(x, "?");
        Due.none(x, "a 6th", x.orders(n, 0, 1), 4);
        Due.none(x, "1 ahead of 4", x.orders(n, 0, 16), 1);
        Due.is("no fault of it", x.fault(0), 0);
        Due.is("the tape stays", x.feed(0, 0, 0, 0, 0), 40);
        Due.is(x, "five RULES", x.rules(0, 0, 0), 5);
        Due.is(x, "the last one's", x.rules(0, 0, 2), 4);
    }

    private static void good(String text, int rules) {
        LampYear x = fresh();
        Due.is(x, "orders " + text, Due.orders(x, text, 0, 1), rules);
        Due.is("fault of " + text, x.fault(0), 0);
        Due.is("its place", x.fault(1), NONE);
    }

    private static void bad(String text, int kind, int place) {
        LampYear x = fresh();
        Due.none(x, "orders " + text, Due.orders(x, text, 0, 1), 9);
        Due.is("fault of " + text, x.fault(0), kind);
        Due.is("its place in " + text, x.fault(1), place);
        Due.is("no RULES by " + text, x.rules(0, 59, 0), 0);
    }

    private static void tokens() {
        good("", 0);
        good(" \n ", 0);
        good("a:room 1;", 1);
        good("  a \n:\nroom\n1 ; ", 1);
        good("a:room1;b:pass0;c:flag100;", 3);
        good("a strikes b:room 0001;", 1);
        good("a:may 1<2;", 1);
        good("a:may not 1+2*3/4-5>age and week=0 or rain<1 unless not done>9 and many=1;", 1);
        good("a:hours 9999;b:hours(age)unless shire=0;", 2);
        good("a:hours((((((1))))));", 1);
        good("a:hours (((1)))+((((((2))))))*(3);", 1);
        good("abcdefgh:pass 40;mays:pass 1;notes strikes abcdefgh:pass 2;", 3);
        // a NUMBER ends where a WORD begins
        good("a:hours 12unless 1<2;", 1);
        // as long as they go
        bad("a:hoursage;", 2, 2);
        bad("a:may 1<2orage=3;", 2, 9);
        good("a:may 1<2or3=3;", 1);
    }

    private static void noToken() {
        bad("A:room 1;", 1, 0);
        bad("a:room 1;\t", 1, 9);
        bad("a:room 1;\r\n", 1, 9);
        bad("a:room 1.", 1, 8);
        bad("a:room 1;" + (char) 0, 1, 9);
        bad("a:room 1;" + (char) 255, 1, 9);
        bad("a:room 1;" + (char) 186, 1, 9);
        bad("a:room 12345;", 1, 7);
        bad("a:room 00001;", 1, 7);
        bad("a:hours 1+99999999999999999999;", 1, 10);
        // of one TOKEN the least kind
        bad("12345", 1, 0);
        bad("a:room 1;12345", 1, 9);
    }

    private static void cantStand() {
        bad("a", 2, 1);
        bad("a  ", 2, 3);
        bad(":", 2, 0);
        bad("1", 2, 0);
        bad("a:", 2, 2);
        bad("a b", 2, 2);
        bad("a strikes", 2, 9);
        bad("a strikes:room 1;", 2, 9);
        bad("a strikes may:room 1;", 2, 10);
        bad("a strikes b strikes c:room 1;", 2, 12);
        bad("a:b", 2, 2);
        bad("a:strikes", 2, 2);
        bad("a:room age;", 2, 7);
        bad("a:room (1);", 2, 7);
        bad("a:room 1", 2, 8);
        bad("a:room 1+1;", 2, 8);
        bad("a:room 1 unless 1<2;", 2, 9);
        bad("a:may;", 2, 5);
        bad("a:may 1;", 2, 7);
        bad("a:may 1<2<3;", 2, 9);
        bad("a:may 1<;", 2, 8);
        bad("a:may not not 1<2;", 2, 10);
        bad("a:may (1<2);", 2, 8);
        bad("a:may 1<2 and;", 2, 13);
        bad("a:may 1 and 2<3;", 2, 8);
        bad("a:may 1<not 2;", 2, 8);
        bad("a:may 1<2 unless;", 2, 16);
        bad("a:may 1<2 unless 1;", 2, 18);
        bad("a:may 1<2 unless 1<2 unless 1<2;", 2, 21);
        bad("a:may 1 unless 1<2;", 2, 8);
        bad("a:hours;", 2, 7);
        bad("a:hours not 1;", 2, 8);
        bad("a:hours 1<2;", 2, 9);
        bad("a:hours 1 and 2;", 2, 10);
        bad("a:hours 1 2;", 2, 10);
        bad("a:hours -1;", 2, 8);
        bad("a:hours 1+;", 2, 10);
        bad("a:hours (1;", 2, 10);
        bad("a:hours (1 unless 1<2;", 2, 11);
        bad("a:hours 1);", 2, 9);
        bad("a:hours ();", 2, 9);
        bad("a:hours a;", 2, 8);
        bad("a:hours 1", 2, 9);
        bad("a:hours 1 unless 1<2 unless 1<2;", 2, 21);
        bad("a:room 1;;", 2, 9);
        bad("a:may may<1;", 2, 6);
        bad("a:may ages<1;", 2, 6);
    }

    private static void labels() {
        String[] never = {"strikes", "may", "unless", "hours", "room", "pass", "flag", "or", "and", "not",
            "age", "tongue", "many", "week", "done", "rain", "shire"};
        for (String w : never) {
            bad(w + ":room 1;", 2, 0);
            bad("a strikes " + w + ":room 1;", 2, 10);
            good(w.substring(0, 1) + "x:room 1;", 1);
        }
        bad("abcdefghi:room 1;", 2, 0);
        bad("a strikes abcdefghi:room 1;", 2, 10);
        // nine letters whose last eight are a LABEL, and ones that are as a word by their last letters
        bad("a:room 1;bcdefghij strikes a:room 2;", 2, 9);
        bad("a:hours xxxxxxxxxxxxxxxxxage;", 2, 8);
        bad("a:room 1; a:room 2;", 4, 10);
        bad("a:room 1;b:room 1;a strikes a:room 2;", 4, 18);
        good("a:room 1;b strikes a:room 1;c strikes a:room 2;", 3);
        LampYear x = fresh();
        Due.orders(x, "a:room 1;", 0, 1);
        Due.is(x, "in another TEXT it may stand", Due.orders(x, "a:room 2;", 0, 1), 1);
    }

    private static String letters(int n) {
        StringBuilder s = new StringBuilder();
        for (int i = 0; i < n; i++) {
            s.append((char) ('a' + i)).append(":pass 1;");
        }
        return s.toString();
    }

    private static void twentyRules() {
        good(letters(20), 20);
        bad(letters(21), 3, 180);
        bad(letters(20) + "  a:pass 1;", 3, 182);
        bad(letters(20) + "may:pass 1;", 2, 180);
        bad(letters(20) + ";", 2, 180);
        bad(letters(20) + "?", 1, 180);
        bad(letters(20) + "z", 3, 180);
    }

    private static void brackets() {
        bad("a:hours(((((((1)))))));", 5, 13);
        bad("a:may 1<((((((2+(1)))))));", 5, 16);
        good("a:may 1<((((((2)))))) and ((((((1-1))))))=0;", 1);
        bad("a:hours ((((((1(", 2, 15);
        bad("a:hours ((((((?", 1, 14);
    }

    private static void numbersThatCant() {
        bad("a:room 0;", 6, 7);
        good("a:room 40;", 1);
        bad("a:room 41;", 6, 7);
        good("a:pass 0;", 1);
        good("a:pass 40;", 1);
        bad("a:pass 41;", 6, 7);
        bad("a:flag 0;", 6, 7);
        good("a:flag 1;", 1);
        good("a:flag 100;", 1);
        bad("a:flag 101;", 6, 7);
        bad("a:flag 9999", 6, 7);
    }

    private static void firstFault() {
        bad("a:room 0;a:room 1;?", 6, 7);
        bad("a:room 1;a:room 0;?", 4, 9);
        bad("a:room 1 ?", 1, 9);
        bad("a room 1 ?", 2, 2);
    }

    private static void standing() {
        LampYear x = fresh();
        Due.is(x, "none", x.rules(0, 0, 0), 0);
        Due.orders(x, "a:room 5;b:pass 5;", 10, 1 | 4);
        Due.orders(x, "c:room 3;", 5, 4);
        Due.orders(x, "d strikes a:room 4;", 10, 4 | 8);
        int[][] want = {{0, 4, 0}, {2, 4, 0}, {2, 5, 1}, {2, 9, 1}, {2, 10, 4}, {0, 9, 0}, {0, 10, 2}, {0, 59, 2},
            {1, 59, 0}, {3, 9, 0}, {3, 10, 1}};
        for (int[] w : want) {
            Due.is(x, "SHIRE " + w[0] + " in WEEK " + w[1], x.rules(w[0], w[1], 0), w[2]);
        }
        Due.is(x, "by WEEK: the last is d", x.rules(2, 10, 1), 4);
        Due.is(x, "c alone", x.rules(2, 9, 1), 3);
        Due.is(x, "a", x.rules(0, 10, 1), 5);
        Due.is(x, "a is number 1 there", x.struck(2, 10, 1), 1);
        Due.is(x, "c is number 0", x.struck(2, 10, 0), 0);
        Due.none(x, "SHIRE 4", x.rules(4, 0, 0), 1);
        Due.none(x, "SHIRE -1", x.rules(-1, 0, 0), 1);
        Due.none(x, "WEEK 60", x.rules(0, 60, 0), 1);
        Due.none(x, "WEEK -1", x.rules(0, -1, 0), 1);
        Due.none(x, "what 4", x.rules(0, 0, 4), 1);
        Due.none(x, "what -1", x.rules(0, 0, -1), 1);
    }

    /** TEXTS by the WEEK they began, of like ones as they were told: each tells the last ROOM for a while. */
    private static void orderOfTexts() {
        LampYear x = fresh();
        int[] began = {30, 20, 10, 20, 0};
        for (int t = 0; t < 5; t++) {
            Due.orders(x, (char) ('a' + t) + ":room " + (t + 1) + ";", began[t], 1);
        }
        int[][] want = {{0, 5}, {9, 5}, {10, 3}, {19, 3}, {20, 4}, {29, 4}, {30, 1}, {59, 1}};
        for (int[] w : want) {
            Due.is(x, "ROOM in WEEK " + w[0], x.rules(0, w[0], 1), w[1]);
        }
        Due.is(x, "RULES in WEEK 59", x.rules(0, 59, 0), 5);
        Due.is(x, "RULES in WEEK 20", x.rules(0, 20, 0), 4);
    }

    private static void struckRules() {
        LampYear x = fresh();
        Due.orders(x, "a strikes a:room 5;b strikes c:room 6;c strikes b:room 7;d strikes c:room 8;e strikes f:room 9;", 0, 1);
        int[] want = {0, 1, 1, 0, 0};
        for (int r = 0; r < want.length; r++) {
            Due.is(x, "RULE " + r, x.struck(0, 0, r), want[r]);
        }
        Due.none(x, "RULE 5", x.struck(0, 0, 5), 1);
        Due.none(x, "RULE -1", x.struck(0, 0, -1), 1);
        Due.none(x, "SHIRE 1 has none", x.struck(1, 0, 0), 1);
        Due.none(x, "SHIRE 4", x.struck(4, 0, 0), 1);
        Due.none(x, "WEEK 60", x.struck(0, 60, 0), 1);
        Due.orders(x, "e:room 2;a strikes e:room 3;", 1, 1);
        Due.is(x, "both e are STRUCK", x.struck(0, 1, 4), 1);
        Due.is(x, "both e are STRUCK", x.struck(0, 1, 5), 1);
        Due.is(x, "the WEEK ahead not", x.struck(0, 0, 4), 0);
        Due.orders(x, "z strikes e:room 1;", 0, 1);
        Due.is(x, "z stands ahead of the later e", x.struck(0, 0, 4), 1);
        Due.is(x, "and is number 5", x.struck(0, 1, 5), 0);
    }

    private static void lastWord() {
        LampYear x = fresh();
        Due.is(x, "ROOM", x.rules(0, 0, 1), 40);
        Due.is(x, "PASS", x.rules(0, 0, 2), 0);
        Due.is(x, "FLAG", x.rules(0, 0, 3), 100);
        Due.orders(x, "a:room 5;b:pass 6;c:flag 7;d:room 8;e:pass 9;f:flag 10;", 0, 1);
        Due.is(x, "ROOM", x.rules(0, 0, 1), 8);
        Due.is(x, "PASS", x.rules(0, 0, 2), 9);
        Due.is(x, "FLAG", x.rules(0, 0, 3), 10);
        Due.orders(x, "x strikes d:may 1=1;y strikes e:may 1=1;z strikes f:may 1=1;", 5, 1);
        Due.is(x, "ROOM, the last STRUCK", x.rules(0, 5, 1), 5);
        Due.is(x, "PASS, the last STRUCK", x.rules(0, 5, 2), 6);
        Due.is(x, "FLAG, the last STRUCK", x.rules(0, 5, 3), 7);
        Due.is(x, "not ahead of it", x.rules(0, 4, 1), 8);
        Due.orders(x, "x strikes a:may 1=1;y strikes b:may 1=1;z strikes c:may 1=1;", 6, 1);
        Due.is(x, "ROOM, all STRUCK", x.rules(0, 6, 1), 40);
        Due.is(x, "PASS, all STRUCK", x.rules(0, 6, 2), 0);
        Due.is(x, "FLAG, all STRUCK", x.rules(0, 6, 3), 100);
    }

    /** A PLACE, a LAMP, a TEACHER with TONGUE 0 and LEARNERS of some AGES at the LAMP all the year. */
    private static LampYear school(int... ages) {
        LampYear x = fresh();
        x.place(2);
        x.lamp(0);
        x.teacher(1, 0);
        x.note(0, 0, 0, 0, 59, 0);
        for (int i = 0; i < ages.length; i++) {
            x.learner(0, ages[i], i % 5);
            x.note(1, i, 0, 0, 59, 0);
        }
        return x;
    }

    private static void sum(String sum, int want) {
        LampYear x = school(30);
        Due.is(x, "orders", Due.orders(x, "a:hours " + sum + ";", 0, 15), 1);
        Due.is(x, "hours " + sum, x.taught(0, 7, 2), want);
    }

    private static void test(String test, boolean want) {
        LampYear x = school(30);
        Due.is(x, "orders", Due.orders(x, "a:may " + test + ";", 0, 15), 1);
        Due.is(x, "may " + test, x.taught(0, 7, 0), want ? 1 : 0);
    }

    private static void reckoning() {
        sum("1+2*3", 7);
        sum("(1+2)*3", 9);
        sum("20-3-4", 13);
        sum("20-(3-4)", 21);
        sum("24/2/3", 4);
        sum("24/(2/3)", 0);
        sum("7/2*2", 6);
        sum("2*7/2", 7);
        sum("10+9/0", 10);
        sum("10-(1-8)/2", 13);
        sum("10+(0-7)/2", 7);
        sum("1+2*3-4/2+5", 10);
        sum("((2+3)*(4-1)-5)*2", 20);
        // 10^18 * 10 goes round: 10^19 - 2^64 is below 0, and 2^64 is 0
        sum("1000*1000*1000*1000*1000*1000*10/1000/1000/1000/1000/1000/1000+20", 12);
        sum("4096*4096*4096*4096*4096*16+5", 5);
        sum("(0-4096*4096*4096*4096*4096*8)/(0-1)/4096/4096/4096/4096/4096+20", 12);
        test("1<2", true);
        test("2<2", false);
        test("2>1", true);
        test("2>2", false);
        test("2=2", true);
        test("2=3", false);
        test("not 2=3", true);
        test("not 2=2", false);
        test("1=1 or 1=2 and 1=2", true);
        test("1=2 and 1=2 or 1=1", true);
        test("1=2 or 1=1 and 1=2", false);
        test("not 1=1 or 1=1", true);
        test("not 1=2 and 1=2", false);
        test("1=2 and not 1=1 or not 1=2 and not 2=3", true);
        test("1+1=2 and 2*3-1>4", true);
        test("1<2 and 1=1 and 2>1", true);
        test("1=2 or 1=1 unless 1=2", true);
        test("1=1 or 1=2 unless 1=2", true);
        test("1=2 or 1=1 unless 1=2 or 1=1", false);
        test("0-1<0", true);
        test("1=1 unless 1=2", true);
        test("1=1 unless 1=1", false);
        test("1=2 unless 1=2", false);
        test("1=1 unless 1=2 and 1=1 or 2=2", false);
    }

    private static void variables() {
        LampYear x = school(30, 44, 70);
        x.learner(0, 9, 0);
        Due.orders(x, "a:hours age;", 0, 15);
        Due.is(x, "age", x.taught(0, 0, 2), 30);
        Due.is(x, "age", x.taught(1, 0, 2), 44);
        Due.is(x, "age, cut to 60", x.taught(2, 0, 2), 60);
        x = school(30, 44, 70);
        Due.orders(x, "a:hours 10+tongue;", 0, 15);
        Due.is(x, "the TEACHER has the TONGUE", x.taught(0, 0, 2), 11);
        Due.is(x, "and has not", x.taught(1, 0, 2), 10);
        x = school(30, 44, 70);
        Due.orders(x, "a:hours 10*many+shire;", 0, 15);
        Due.is(x, "many and shire", x.taught(1, 5, 2), 32);
        x.note(2, 0, NONE, 6, 6, 0);
        Due.is(x, "one AWAY", x.taught(1, 6, 2), 22);
        x = school(30, 44, 70);
        Due.orders(x, "a:hours week;", 0, 15);
        Due.is(x, "week", x.taught(0, 0, 2), 0);
        Due.is(x, "week", x.taught(0, 59, 2), 59);
        x = school(30, 44);
        Due.orders(x, "a:hours 6+done;", 0, 15);
        Due.is(x, "done ahead of WEEK 0", x.taught(0, 0, 2), 6);
        Due.is(x, "done ahead of WEEK 1", x.taught(0, 1, 2), 7);
        Due.is(x, "of another LEARNER", x.taught(1, 1, 2), 6);
    }

    private static void rain() {
        LampYear x = school(30);
        x.place(0);
        x.place(0);
        Due.orders(x, "a:hours 10+rain;", 0, 15);
        Due.is(x, "no WAY, no rain", x.taught(0, 0, 2), 10);
        x.way(0, 1, 1, 2, 5);
        Due.is(x, "WEEK 1", x.taught(0, 1, 2), 10);
        Due.is(x, "WEEK 2", x.taught(0, 2, 2), 11);
        Due.is(x, "WEEK 5", x.taught(0, 5, 2), 11);
        Due.is(x, "WEEK 6", x.taught(0, 6, 2), 10);
        x.way(2, 0, 1, 5, 9);
        Due.is(x, "one is open", x.taught(0, 2, 2), 10);
        Due.is(x, "both SHUT", x.taught(0, 5, 2), 11);
        Due.is(x, "the other is open", x.taught(0, 6, 2), 10);
        x.way(1, 2, 1, NONE, NONE);
        Due.is(x, "a WAY of others", x.taught(0, 5, 2), 11);
    }

    private static void mayBeTaught() {
        LampYear x = school(30, 44, 70);
        Due.orders(x, "a:may age<40;b:may age>60 unless week=3;", 1, 4);
        Due.orders(x, "d strikes a:room 40;e strikes b:room 40;", 5, 4);
        int[][] want = {{0, 0, 1}, {1, 0, 1}, {2, 0, 1}, {0, 1, 1}, {1, 1, 0}, {2, 1, 1}, {0, 3, 1}, {2, 3, 0}, {1, 5, 1}};
        for (int[] w : want) {
            Due.is(x, "may " + w[0] + " in WEEK " + w[1], x.taught(w[0], w[1], 0), w[2]);
            Due.is(x, "TAUGHT " + w[0] + " in WEEK " + w[1], x.taught(w[0], w[1], 1), w[2]);
        }
        // it is the LAMP's SHIRE that counts, not the HOME's
        x.place(0);
        x.lamp(1);
        x.note(1, 1, 1, 1, 1, 0);
        x.teacher(1, 0);
        x.note(0, 1, 1, 1, 1, 0);
        Due.is(x, "at a LAMP of another SHIRE", x.taught(1, 1, 0), 1);
    }

    private static void seats() {
        LampYear x = school(30, 44, 70, 20, 20);
        Due.orders(x, "a:may not age=44;r:room 2;", 0, 4);
        int[] taught = {1, 0, 1, 0, 0};
        int[] may = {1, 0, 1, 1, 1};
        for (int l = 0; l < 5; l++) {
            Due.is(x, "may", x.taught(l, 0, 0), may[l]);
            Due.is(x, "TAUGHT", x.taught(l, 0, 1), taught[l]);
        }
        x.note(2, 0, NONE, 1, 1, 0);
        Due.is(x, "a seat is free", x.taught(3, 1, 1), 1);
        Due.is(x, "but one", x.taught(4, 1, 1), 0);
        x.lamp(0);
        x.teacher(1, 0);
        x.note(0, 1, 1, 2, 2, 0);
        x.note(1, 4, 1, 2, 2, 0);
        Due.is(x, "each LAMP has its own ROOM", x.taught(4, 2, 1), 1);
        Due.is(x, "TAUGHT of those who may: what 2", x.taught(0, 0, 2), 6);
        Due.none(x, "not TAUGHT: what 2", x.taught(3, 0, 2), 6);
    }

    private static void hoursTold() {
        LampYear x = school(30);
        Due.is(x, "without any", x.taught(0, 0, 2), 6);
        Due.orders(x, "a:hours 3;b:hours 9 unless week>4;c:hours 4;", 1, 4);
        Due.is(x, "the greatest", x.taught(0, 1, 2), 9);
        Due.is(x, "but for unless", x.taught(0, 5, 2), 4);
        Due.orders(x, "d strikes c:room 1;e strikes a:room 1;", 3, 4);
        Due.is(x, "STRUCK ones say nothing", x.taught(0, 3, 2), 9);
        Due.is(x, "none that tells", x.taught(0, 5, 2), 6);
        Due.orders(x, "f:hours 0-5;", 7, 4);
        Due.is(x, "cut to 0", x.taught(0, 7, 2), 0);
        Due.is(x, "TAUGHT with 0", x.taught(0, 7, 1), 1);
        Due.orders(x, "g:hours 61;", 8, 4);
        Due.is(x, "cut to 60", x.taught(0, 8, 2), 60);
    }

    private static void taughtThatCant() {
        LampYear x = school(30);
        x.learner(0, 9, 0);
        for (int what = 0; what < 3; what++) {
            Due.none(x, "no LAMP", x.taught(1, 0, what), 6);
        }
        x.note(3, 0, NONE, 5, 5, 0);
        for (int what = 0; what < 3; what++) {
            Due.none(x, "not LIT", x.taught(0, 5, what), 6);
        }
        Due.none(x, "no such LEARNER", x.taught(2, 0, 0), 1);
        Due.none(x, "no such LEARNER", x.taught(-1, 0, 0), 1);
        Due.none(x, "no such WEEK", x.taught(0, 60, 0), 1);
        Due.none(x, "no such WEEK", x.taught(0, -1, 0), 1);
        Due.none(x, "what 3", x.taught(0, 0, 3), 1);
        Due.none(x, "what -1", x.taught(0, 0, -1), 1);
    }
}

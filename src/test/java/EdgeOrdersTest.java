import java.util.ArrayList;
import java.util.Arrays;
import java.util.List;

/** The edges of promises 17 to 19, sentence by sentence: the tape, texts, tokens, the grammar, faults. */
public final class EdgeOrdersTest {
    private static final int NONE = LampYear.NONE;
    private static final int BLANKS = 0x20202020;

    private EdgeOrdersTest() {
    }

    public static void main(String[] args) {
        tape();
        takenOffTheTape();
        cutInAWord();
        textsMany();
        inForce();
        sixHundredBytes();
        everyByte();
        numbers();
        asLongAsTheyGo();
        labels();
        whatCanStand();
        textThatEnds();
        noToken();
        rulesTooMany();
        labelsTwice();
        brackets();
        numbersThatCant();
        firstAlongTheText();
        faultTells();
        faultyLeaveNothing();
        Due.end();
    }

    private static void good(String text, int rules) {
        LampYear x = new LampYear();
        Due.is(x, "orders " + text, Due.orders(x, text, 0, 1), rules);
        Due.is("fault(0) of " + text, x.fault(0), 0);
        Due.is("fault(1) of " + text, x.fault(1), NONE);
    }

    private static void bad(String text, int kind, int place) {
        LampYear x = new LampYear();
        Due.none(x, "orders " + text, Due.orders(x, text, 0, 1), 9);
        Due.is("fault(0) of " + text, x.fault(0), kind);
        Due.is("fault(1) of " + text, x.fault(1), place);
    }

    private static void tape() {
        Due.says("Twenty bytes come behind those on the tape, the highest of each int first: how many it has; "
                + "NONE if there would be more than 600.");
        LampYear x = new LampYear();
        for (int n = 20; n <= 600; n += 20) {
            Due.is("feed", x.feed(BLANKS, BLANKS, BLANKS, BLANKS, BLANKS), n);
        }
        Due.is("620", x.feed(BLANKS, BLANKS, BLANKS, BLANKS, BLANKS), NONE);
        Due.is("620 again", x.feed(BLANKS, BLANKS, BLANKS, BLANKS, BLANKS), NONE);
        Edge.alike("feed of a full tape", () -> {
            LampYear y = World.FULL_TAPE.make();
            y.feed(0x3F3F3F3F, 0x3F3F3F3F, 0x3F3F3F3F, 0x3F3F3F3F, 0x3F3F3F3F);
            return y;
        }, World.FULL_TAPE);
        // twenty bytes in five ints: a FAULT tells the place of a byte that begins no TOKEN
        for (int place = 0; place < 40; place++) {
            int[] v = {BLANKS, BLANKS, BLANKS, BLANKS, BLANKS};
            int[] blank = v.clone();
            v[place % 20 / 4] = BLANKS & ~(255 << 24 - place % 4 * 8) | 0x80 << 24 - place % 4 * 8;
            LampYear y = new LampYear();
            int[] first = place < 20 ? v : blank;
            int[] second = place < 20 ? blank : v;
            y.feed(first[0], first[1], first[2], first[3], first[4]);
            y.feed(second[0], second[1], second[2], second[3], second[4]);
            Due.none(y, "byte " + place, y.orders(40, 0, 1), 9);
            Due.is("its kind", y.fault(0), 1);
            Due.is("its place", y.fault(1), place);
        }
        LampYear z = new LampYear();
        z.feed(0x613A7061, 0x73732033, 0x373B2020, BLANKS, BLANKS);
        Due.is(z, "a:pass 37;", z.orders(10, 0, 1), 1);
        Due.is(z, "PASS", z.rules(0, 0, 2), 37);
    }

    private static void takenOffTheTape() {
        Due.says("The first n bytes of the tape (which is empty then) are a TEXT in force from a WEEK on in a set of SHIRES: "
                + "how many RULES (1: n below 0, or more than the tape has, too; 4; 9).");
        Edge.ints("orders: n", World.RICH, 0, World.TAPE, (x, v) -> x.orders(v, 0, 15));
        Edge.ints("orders: n of an empty tape", World.NO_TAPE, 0, 0, (x, v) -> x.orders(v, 0, 15));
        Edge.ints("orders: n of a full tape", World.FULL_TAPE, 0, 600, (x, v) -> x.orders(v, 0, 15));
        Edge.ints("orders: WEEK", World.RICH, 0, 59, (x, v) -> x.orders(40, v, 15));
        Edge.ints("orders: SHIRES", World.RICH, 1, 15, (x, v) -> x.orders(40, 0, v));
        // "j strikes a:room 4;k:flag 10;" and blanks
        int[][] want = {{0, 0}, {19, 1}, {29, 2}, {40, 2}};
        for (int[] w : want) {
            LampYear x = World.RICH.make();
            Due.is(x, w[0] + " bytes", x.orders(w[0], 0, 15), w[1]);
            Due.none(x, "the tape is empty then", x.orders(1, 0, 1), 1);
            Due.is("and is fed anew", x.feed(0, 0, 0, 0, 0), 20);
        }
        for (int n : new int[] {1, 18, 28}) {
            LampYear x = World.RICH.make();
            Due.none(x, n + " bytes", x.orders(n, 0, 15), 9);
            Due.is("the end is where n says", x.fault(1), n);
            Due.none(x, "the tape is empty then, too", x.orders(1, 0, 1), 1);
            Due.is("and is fed anew", x.feed(0, 0, 0, 0, 0), 20);
        }
        Edge.none("orders: 1 ahead of 4", World.FULL_TEXTS, x -> x.orders(41, 0, 15), 1);
        Edge.none("orders: 1 ahead of 4", World.FULL_TEXTS, x -> x.orders(-1, 0, 15), 1);
        Edge.none("orders: 1 ahead of 4", World.FULL_TEXTS, x -> x.orders(40, 60, 15), 1);
        Edge.none("orders: 1 ahead of 4", World.FULL_TEXTS, x -> x.orders(40, 0, 0), 1);
        Edge.none("orders: 1 ahead of 9", World.RICH, x -> x.orders(1, 0, 16), 1);
        Edge.none("orders: 4 ahead of 9", World.FULL_TEXTS, x -> x.orders(1, 0, 15), 4);
        Edge.none("orders: 4, of an empty TEXT, too", World.FULL_TEXTS, x -> x.orders(0, 0, 15), 4);
    }

    private static void cut(String text, int n, int kind, int place) {
        LampYear x = new LampYear();
        Due.feed(x, text);
        Due.none(x, n + " bytes of " + text, x.orders(n, 0, 1), 9);
        Due.is("fault(0)", x.fault(0), kind);
        Due.is("fault(1)", x.fault(1), place);
    }

    /** What stands on the tape behind the first n bytes does not belong to the TEXT. */
    private static void cutInAWord() {
        cut("a:room 1;", 5, 2, 2);
        cut("a:hours age;", 10, 2, 8);
        cut("a:pass 40;", 8, 2, 8);
        cut("a:flag 1000;", 10, 2, 10);
        cut("a:hours 12345;", 12, 2, 12);
        cut("abcdefghi:room 1;", 8, 2, 8);
        LampYear x = new LampYear();
        Due.feed(x, "a:room 1;bcdefgh");
        Due.is(x, "behind it nothing counts", x.orders(9, 0, 1), 1);
        // nor does what stood on the tape ahead of the TEXT that was fed last
        LampYear y = new LampYear();
        Due.feed(y, " ".repeat(20) + "0;" + " ".repeat(18));
        Due.none(y, "a NUMBER at first", y.orders(40, 0, 1), 9);
        Due.feed(y, "            a:pass 4");
        Due.none(y, "20 bytes, the NUMBER at their end", y.orders(20, 0, 1), 9);
        Due.is("fault(0)", y.fault(0), 2);
        Due.is("fault(1)", y.fault(1), 20);
    }

    private static void textsMany() {
        Due.says("ORDERS: TEXTS, at most 5, each in force from a WEEK on in some SHIRES (a set: 1 for SHIRE 0, 2 for 1 .., "
                + "1 to 15), of at most 600 bytes.");
        LampYear x = new LampYear();
        for (int i = 0; i < 5; i++) {
            Due.none(x, "a faulty one is no TEXT", Due.orders(x, "a", 0, 1), 9);
            Due.is(x, "TEXT " + i, Due.orders(x, "a:room " + (i + 1) + ";", 0, 1), 1);
        }
        Due.none(x, "a 6th", Due.orders(x, "a:room 9;", 0, 1), 4);
        Due.is(x, "RULES", x.rules(0, 0, 0), 5);
        Due.is(x, "ROOM", x.rules(0, 0, 1), 5);
        LampYear y = new LampYear();
        for (int i = 0; i < 5; i++) {
            Due.is(y, "an empty TEXT is one, too", y.orders(0, 0, 1), 0);
        }
        Due.none(y, "a 6th", y.orders(0, 0, 1), 4);
        Edge.none("a 6th TEXT", World.FULL_TEXTS, z -> z.orders(40, 0, 15), 4);
    }

    private static void inForce() {
        for (int set = 1; set < 16; set++) {
            LampYear x = new LampYear();
            Due.orders(x, "a:room 7;", 0, set);
            for (int shire = 0; shire < 4; shire++) {
                Due.is(x, "SHIRE " + shire + " of set " + set, x.rules(shire, 0, 0), set >> shire & 1);
                Due.is(x, "its ROOM", x.rules(shire, 59, 1), (set >> shire & 1) != 0 ? 7 : 40);
            }
        }
        for (int week : new int[] {0, 1, 30, 58, 59}) {
            LampYear x = new LampYear();
            Due.orders(x, "a:room 7;", week, 15);
            for (int w = 0; w < 60; w++) {
                Due.is(x, "from WEEK " + week + " on: WEEK " + w, x.rules(3, w, 0), w < week ? 0 : 1);
            }
        }
    }

    /** One RULE in just so many bytes: 1+1+..+1=n. */
    private static String ones(int bytes, String compared) {
        StringBuilder s = new StringBuilder("a:may 1");
        int end = bytes - 1 - compared.length() - 1;
        while (s.length() < end) {
            s.append("+1");
        }
        return s.append('=').append(compared).append(';').toString();
    }

    private static void sixHundredBytes() {
        Due.says("of at most 600 bytes.");
        String text = ones(600, "295");
        Due.is("bytes", text.length(), 600);
        LampYear x = World.school(30);
        Due.is(x, "600 bytes", Due.orders(x, text, 0, 1), 1);
        Due.is(x, "295 ones", x.taught(0, 0, 0), 1);
        LampYear y = World.school(30);
        Due.is(y, "600 bytes", Due.orders(y, ones(600, "296"), 0, 1), 1);
        Due.is(y, "no 296 ones", y.taught(0, 0, 0), 0);
        bad(text.substring(0, 599), 2, 599);
        bad(text.substring(0, 599) + "?", 1, 599);
        bad(text.substring(0, 599) + "+", 2, 600);
        good(" ".repeat(600), 0);
        good(" ".repeat(590) + "a:room 40;", 1);
        // five TEXTS of 600 bytes and 20 RULES: the last RULE of all says the most
        LampYear z = World.school(30);
        for (int t = 0; t < 5; t++) {
            StringBuilder s = new StringBuilder();
            for (char c = 'a'; c < 'u'; c++) {
                s.append(c).append(":hours 1+1+1+1+1+1+1+1+1+").append(t == 4 && c == 't' ? 2 : 1).append(';');
            }
            s.append(" ".repeat(600 - s.length()));
            Due.is(z, "TEXT " + t, Due.orders(z, s.toString(), t, 1), 20);
            Due.is(z, "HOURS", z.taught(0, 59, 2), t == 4 ? 11 : 10);
        }
        Due.is(z, "RULES", z.rules(0, 59, 0), 100);
        Due.is(z, "HOURS ahead of the fifth", z.taught(0, 3, 2), 10);
    }

    private static void everyByte() {
        Due.says("TOKENS, as long as they go, between them blanks (10, 32): WORDS (small letters), NUMBERS (1 to 4 digits), "
                + "SIGNS ; : < > = + - * / ( )");
        String signs = ";:<>=+-*/()";
        for (int b = 0; b < 256; b++) {
            String text = "" + (char) b;
            if (b == 10 || b == 32) {
                good(text, 0);
                good("a" + text + ":" + text + "room" + text + "1" + text + ";" + text, 1);
            } else if (b >= 'a' && b <= 'z') {
                bad(text, 2, 1);
                good(text + ":room 1;", 1);
            } else if (b >= '0' && b <= '9' || signs.indexOf(b) >= 0) {
                bad(text, 2, 0);
            } else {
                bad(text, 1, 0);
                bad("a:room 1;" + text, 1, 9);
            }
        }
        good("a:room 1;\n\n  \n", 1);
        good("\n a:room 1;", 1);
    }

    private static void numbers() {
        for (String n : new String[] {"1", "9", "01", "001", "0001", "40", "040", "0040"}) {
            good("a:room " + n + ";", 1);
            good("a:room" + n + ";", 1);
        }
        for (String n : new String[] {"0", "9", "99", "999", "9999", "0000"}) {
            LampYear x = World.school(30);
            Due.is(x, "NUMBER " + n, Due.orders(x, "a:may " + n + "=" + Integer.parseInt(n) + ";", 0, 1), 1);
            Due.is(x, "it holds", x.taught(0, 0, 0), 1);
        }
        LampYear x = World.school(30);
        Due.orders(x, "a:may 9999=9998+1 and 9999>9998 and 9999<9999+1;", 0, 1);
        Due.is(x, "9999", x.taught(0, 0, 0), 1);
        bad("a:hours 10000;", 1, 8);
        bad("a:hours 00000;", 1, 8);
        bad("a:hours 00001;", 1, 8);
        bad("a:hours 4294967297;", 1, 8);
        bad("a:hours " + "1".repeat(500) + ";", 1, 8);
        bad("a:hours 9999 9999;", 2, 13);
    }

    private static void asLongAsTheyGo() {
        good("a:room1;", 1);
        bad("a:room1 2;", 2, 8);
        bad("a:room 1 0;", 2, 9);
        good("a:may 1<2and 3>2;", 1);
        bad("a:may 1<2an d3>2;", 2, 9);
        bad("a:may 1<2andage>2;", 2, 9);
        good("a:may 1<2and age>2;", 1);
        good("a:may not age<2;", 1);
        bad("a:may notage<2;", 2, 6);
        bad("a:roo m 1;", 2, 2);
        bad("astrikes b:room 1;", 2, 9);
        bad("a strike s:room 1;", 2, 2);
        good("a strikes b:room 1;b strikes a:room 2;", 2);
        good("a:hours(1)unless(1)=1;", 1);
        bad("a:may 1<=2;", 2, 8);
        bad("a:may 1==2;", 2, 8);
        bad("a:may 1><2;", 2, 8);
    }

    private static void labels() {
        Due.says("LABEL: a WORD of 1 to 8 letters that is none of strikes, may, unless, hours, room, pass, flag, or, and, not, "
                + "nor a VARIABLE.");
        for (int n = 1; n <= 8; n++) {
            good("z".repeat(n) + ":room 1;", 1);
            good("a strikes " + "z".repeat(n) + ":room 1;", 1);
        }
        for (int n : new int[] {9, 10, 16, 17, 24, 64, 65, 400}) {
            bad("z".repeat(n) + ":room 1;", 2, 0);
            bad("a strikes " + "z".repeat(n) + ":room 1;", 2, 10);
        }
        for (String w : KEYS) {
            bad(w + ":room 1;", 2, 0);
            bad("a strikes " + w + ":room 1;", 2, 10);
            good(w.substring(1) + ":room 1;", 1);
            if (w.length() < 8) {
                good(w + "s strikes s" + w + ":room 1;", 1);
            }
        }
        Due.says("VARIABLES: age, tongue, many, week, done, rain, shire.");
        for (String w : VARIABLES) {
            bad(w + ":room 1;", 2, 0);
            bad("a strikes " + w + ":room 1;", 2, 10);
            good("a:hours " + w + ";", 1);
            good("a:may " + w + "<" + w + ";", 1);
            good(w + "s:room 1;", 1);
            bad("a:hours " + w + "s;", 2, 8);
            bad("a:hours x" + w + ";", 2, 8);
            bad("a:hours " + "x".repeat(30) + w + ";", 2, 8);
        }
        // LABELS that differ in one letter alone are others
        good("aaaaaaaa:room 1;aaaaaaab:room 1;baaaaaaa:room 1;aaaaaaa:room 1;", 4);
        for (char c = 'a'; c <= 'z'; c++) {
            StringBuilder first = new StringBuilder();
            StringBuilder second = new StringBuilder();
            for (int i = 0; i < 20; i++) {
                first.append(c).append('z').append((char) ('a' + i)).append(":pass 1;");
                second.append((char) ('g' + i)).append('z').append(c).append(":pass 1;");
            }
            good(first.toString(), 20);
            good(second.toString(), 20);
        }
    }

    // ---- the grammar: ahead of each place, what can stand there; nothing else can

    private static final List<String> KEYS =
            List.of("strikes", "may", "unless", "hours", "room", "pass", "flag", "or", "and", "not");
    private static final List<String> VARIABLES = List.of("age", "tongue", "many", "week", "done", "rain", "shire");
    private static final String ATOM = " 7 age tongue many week done rain shire ( ";
    private static final String RECKON = " + - * / ";
    private static final String COMPARE = " < > = ";
    private static final String LABEL = " b abcdefgh ";

    private static List<String> tokens() {
        List<String> all = new ArrayList<>(KEYS);
        all.addAll(VARIABLES);
        all.addAll(List.of("7", "b", "abcdefgh", "abcdefghi"));
        all.addAll(Arrays.asList("; : < > = + - * / ( )".split(" ")));
        return all;
    }

    private static void next(String ahead, String can) {
        for (String token : tokens()) {
            String text = ahead + " " + token;
            if (!can.contains(" " + token + " ")) {
                bad(text, 2, ahead.length() + 1);
                bad(text + " ?", 2, ahead.length() + 1);
            } else if (token.equals(";")) {
                good(text, 1);
            } else {
                bad(text, 2, text.length());
            }
        }
    }

    private static void whatCanStand() {
        Due.says("TEXT: {RULE}.");
        next("", LABEL);
        next("a:room 1;", LABEL);
        good("", 0);
        good("a:room 1;b:room 1;", 2);
        Due.says("RULE: LABEL [strikes LABEL] : DOES ;");
        next("a", " strikes : ");
        next("a strikes", LABEL);
        next("a strikes c", " : ");
        Due.says("DOES: may TEST [unless TEST], or hours SUM [unless TEST], or room NUMBER, or pass NUMBER, or flag NUMBER.");
        next("a:", " may hours room pass flag ");
        for (String does : new String[] {"room", "pass", "flag"}) {
            next("a:" + does, " 7 ");
            next("a:" + does + " 1", " ; ");
        }
        next("a:hours 1", RECKON + " unless ; ");
        next("a:may 1<2", RECKON + " and or unless ; ");
        for (String does : new String[] {"a:hours 1", "a:may 1<2"}) {
            next(does + " unless", " not" + ATOM);
            next(does + " unless 1", RECKON + COMPARE);
            next(does + " unless 1=1", RECKON + " and or ; ");
        }
        Due.says("TEST: PART {or PART}.");
        next("a:may 1<2 or", " not" + ATOM);
        next("a:may 1<2 or 3>2", RECKON + " and or unless ; ");
        next("a:may 1<2 or 3>2 or 1=1", RECKON + " and or unless ; ");
        Due.says("PART: ONE {and ONE}.");
        next("a:may 1<2 and", " not" + ATOM);
        next("a:may 1<2 and 3>2", RECKON + " and or unless ; ");
        next("a:may 1<2 and 3>2 and 1=1", RECKON + " and or unless ; ");
        Due.says("ONE: [not] SUM COMPARES SUM.");
        next("a:may", " not" + ATOM);
        next("a:may not", ATOM);
        next("a:may 1", RECKON + COMPARE);
        next("a:may not 1", RECKON + COMPARE);
        Due.says("COMPARES: < or > or =");
        for (String c : new String[] {"<", ">", "="}) {
            next("a:may 1" + c, ATOM);
            next("a:may not 1" + c + "2", RECKON + " and or unless ; ");
        }
        Due.says("SUM: ITEM {+ ITEM, or - ITEM}.");
        Due.says("ITEM: ATOM {* ATOM, or / ATOM}.");
        for (String r : new String[] {"+", "-", "*", "/"}) {
            next("a:hours 1" + r, ATOM);
            next("a:hours 1" + r + "2", RECKON + " unless ; ");
            next("a:may 1" + r + "2", RECKON + COMPARE);
            next("a:may 1<1" + r, ATOM);
        }
        Due.says("ATOM: NUMBER, a VARIABLE, or ( SUM ).");
        next("a:hours", ATOM);
        next("a:hours (", ATOM);
        next("a:hours (1", RECKON + " ) ");
        next("a:hours (1)", RECKON + " unless ; ");
        next("a:may (1", RECKON + " ) ");
        next("a:may (1)", RECKON + COMPARE);
        next("a:may 1<(1", RECKON + " ) ");
        next("a:may 1<(age)", RECKON + " and or unless ; ");
        next("a:hours ((1)", RECKON + " ) ");
        Due.says("({ } any number of times, [ ] perhaps.)");
        good("a:may 1=1" + " or 1=1".repeat(84) + ";", 1);
        good("a:may 1=1" + " and 1=1".repeat(73) + ";", 1);
        good("a:hours 1" + "-1".repeat(290) + ";", 1);
        good("a:hours 1" + "/1".repeat(290) + ";", 1);
        good("a:hours 1" + "*1".repeat(290) + ";", 1);
    }

    private static void textThatEnds() {
        Due.says("2 it can't stand there (the end: the text's length).");
        String whole = "a strikes b : may not 1 + age < ( 2 ) and 1 = 1 or 2 > 1 unless 1 * 2 = 3 / 4 - 5 ;";
        good(whole, 1);
        for (int n = 1; n < whole.length(); n++) {
            // a cut inside a WORD leaves another WORD, which may be wrong where it stands
            if (whole.charAt(n) == ' ') {
                bad(whole.substring(0, n), 2, n);
                bad(whole.substring(0, n) + "\n ", 2, n + 2);
            }
        }
        Edge.fault("a:room 1", 2, 8);
        Edge.fault("a:room 1;b", 2, 10);
        Edge.fault("a strikes c:hours 1 unless 1=1 and", 2, 34);
        Edge.fault("a:hours((1)", 2, 11);
        Edge.fault("x:room 1;y:may 1=1;z:hours 1 1;", 2, 29);
    }

    private static void noToken() {
        Due.says("1 no TOKEN begins so (a NUMBER of 5 digits and more: at its first).");
        Edge.fault("?", 1, 0);
        Edge.fault("x:room 1;y:pass 12345;", 1, 16);
        Edge.fault("x:room 1;A", 1, 9);
        bad("12345", 1, 0);
        bad("123456789", 1, 0);
        bad("1234", 2, 0);
        bad("a:room 12345", 1, 7);
        bad("a:room 1234", 6, 7);
        bad("a:hours 12345+?", 1, 8);
        bad("a:hours 1+12345", 1, 10);
        bad("a:hours 1\t", 1, 9);
        bad("a:hours 1" + (char) 0, 1, 9);
        bad("aA:room 1;", 1, 1);
        bad("a_b:room 1;", 1, 1);
    }

    /** So many RULES with LABELS of one letter, nine bytes each. */
    private static String rules(int many) {
        StringBuilder s = new StringBuilder();
        for (int i = 0; i < many; i++) {
            s.append((char) ('a' + i)).append(":pass 1;");
        }
        return s.toString();
    }

    private static void rulesTooMany() {
        Due.says("3 a 21st RULE (at its LABEL).");
        good(rules(19), 19);
        good(rules(20), 20);
        bad(rules(21), 3, 180);
        bad(rules(26), 3, 180);
        bad(rules(20) + "u", 3, 180);
        bad(rules(20) + "\n u:pass 1;", 3, 182);
        Edge.fault(rules(21), 3, 180);
        // of one TOKEN the least kind
        bad(rules(20) + "a:pass 1;", 3, 180);
        bad(rules(20) + "may:pass 1;", 2, 180);
        bad(rules(20) + "abcdefghi:pass 1;", 2, 180);
        bad(rules(20) + "7", 2, 180);
        bad(rules(20) + "12345", 1, 180);
    }

    private static void labelsTwice() {
        Due.says("4 a LABEL of a RULE of this TEXT there already (at it).");
        bad("a:room 1;a:room 1;", 4, 9);
        bad("a:room 1; a", 4, 10);
        bad(rules(19) + "a:pass 1;", 4, 171);
        bad(rules(19) + "s:pass 1;", 4, 171);
        bad("abcdefgh:room 1;abcdefgh:room 1;", 4, 16);
        Edge.fault("x:room 1;x:room 2;", 4, 9);
        good("a strikes a:room 1;b strikes a:room 1;c strikes b:room 1;", 3);
        good("a strikes b:room 1;b:room 1;", 2);
        LampYear x = new LampYear();
        for (int i = 0; i < 5; i++) {
            Due.is(x, "in TEXT " + i + " it may stand", Due.orders(x, "a:room 1;", 0, 15), 1);
        }
        LampYear y = new LampYear();
        Due.none(y, "a faulty TEXT", Due.orders(y, "a:room 1;b:room 41;", 0, 15), 9);
        Due.is(y, "its LABELS are gone with it", Due.orders(y, "a:room 2;b:room 3;", 0, 15), 2);
        Due.is(y, "RULES", y.rules(0, 0, 0), 2);
        Due.is(y, "ROOM", y.rules(0, 0, 1), 3);
    }

    private static void brackets() {
        Due.says("5 brackets within six others (at the one that opens).");
        for (int n = 1; n <= 6; n++) {
            good("a:hours " + "(".repeat(n) + "1" + ")".repeat(n) + ";", 1);
        }
        bad("a:hours (((((((1)))))));", 5, 14);
        bad("a:hours ((((((( ", 5, 14);
        bad("a:hours ((((((((1))))))));", 5, 14);
        bad("a:hours (((((( (1))))))));", 5, 15);
        good("a:hours ((((((1))))))+((((((1))))))*((((((1))))));", 1);
        good("a:hours (((((1)+(1))+(1))+(1))+(1))+(1);", 1);
        good("a:may ((((((1))))))<((((((1)))))) and not ((((((1))))))=1 unless ((((((1))))))>((((((1))))));", 1);
        bad("a:may 1<(((((((1)))))));", 5, 14);
        bad("a:may 1<1 unless 1=(((((((1)))))));", 5, 25);
        bad("a:hours (((((1+(1+(1", 5, 18);
        bad("a:hours ((((((1)(", 2, 16);
        bad("a:hours ((((((1(", 2, 15);
        Edge.fault("x:hours (((((((1)))))));", 5, 14);
        LampYear x = World.school(30);
        Due.orders(x, "a:hours 1+2*(1+2*(1+2*(1+2*(0+1*(0+1*(1))))));", 0, 1);
        Due.is(x, "six brackets, an operator of each kind waiting at each", x.taught(0, 0, 2), 31);
        LampYear y = World.school(30);
        Due.orders(y, "a:may 1=2 or 1=1 and not 1+2*(1+2*(1+2*(1+2*(0+1*(0+1*(1))))))<1+2*(1+2*(1+2*(1+2*(0+1*(0+1*(0))))));", 0, 1);
        Due.is(y, "all operators waiting: 31 is not below 15", y.taught(0, 0, 0), 1);
    }

    private static void numbersThatCant() {
        Due.says("6 a NUMBER that can't be: of room 1 to 40, of pass 0 to 40, of flag 1 to 100.");
        int[][] want = {{0, 1, 40}, {1, 0, 40}, {2, 1, 100}};
        String[] does = {"room", "pass", "flag"};
        for (int[] w : want) {
            String text = "a:" + does[w[0]] + " ";
            for (int n : new int[] {w[1], w[2]}) {
                good(text + n + ";", 1);
                LampYear x = new LampYear();
                Due.orders(x, text + n + ";", 0, 1);
                Due.is(x, text + n, x.rules(0, 0, w[0] + 1), n);
            }
            if (w[1] > 0) {
                bad(text + "0;", 6, 7);
                bad(text + "0000;", 6, 7);
            }
            bad(text + (w[2] + 1) + ";", 6, 7);
            bad(text + "9999;", 6, 7);
            bad(text + "9999", 6, 7);
            Edge.fault("x:" + does[w[0]] + " " + (w[2] + 1) + ";", 6, 7);
        }
        Edge.fault("x:room 0;", 6, 7);
        Edge.fault("x:flag 0;", 6, 7);
        // other NUMBERS have no such bounds
        good("a:hours 9999;b:may 9999>0;", 2);
    }

    private static void firstAlongTheText() {
        Due.says("FAULTS, the first along the text (of one TOKEN the least kind)");
        bad("a:room 41;a:room 1;?", 6, 7);
        bad("a:room 1;a:room 41;?", 4, 9);
        bad("a:room ?;a:room 41;", 1, 7);
        bad("a room 41;?", 2, 2);
        bad("a:hours (((((((?", 5, 14);
        bad("a:hours ((((((?(", 1, 14);
        bad("a:hours (((((( )(", 2, 15);
        bad(rules(20) + "z ?", 3, 180);
        bad(rules(19) + "a ?", 4, 171);
        bad("a:room 0 ?", 6, 7);
        bad("12345:", 1, 0);
    }

    private static void faultTells() {
        Due.says("Of the latest orders() with STATUS 0 or 9, what 0: the FAULT (0 without one), 1: its place (NONE without).");
        LampYear x = new LampYear();
        Due.none(x, "a faulty one", Due.orders(x, "a:room 0;", 0, 1), 9);
        tells(x, 6, 7);
        Due.none(x, "STATUS 1 tells nothing new", x.orders(1, 0, 1), 1);
        tells(x, 6, 7);
        Due.is(x, "a good one", Due.orders(x, "a:room 1;", 0, 1), 1);
        tells(x, 0, NONE);
        Due.none(x, "STATUS 1 tells nothing new", x.orders(-1, 0, 1), 1);
        tells(x, 0, NONE);
        Due.none(x, "at place 0", Due.orders(x, ";", 0, 1), 9);
        tells(x, 2, 0);
        for (int i = 1; i < 5; i++) {
            Due.is(x, "an empty one", x.orders(0, 0, 1), 0);
            tells(x, 0, NONE);
        }
        Due.none(x, "STATUS 4 tells nothing new", Due.orders(x, "?", 0, 1), 4);
        tells(x, 0, NONE);

        Due.says("NONE for others, and ahead of any.");
        LampYear y = new LampYear();
        tells(y, NONE, NONE);
        y.orders(1, 0, 1);
        tells(y, NONE, NONE);
        y.feed(0, 0, 0, 0, 0);
        tells(y, NONE, NONE);
    }

    private static void tells(LampYear x, int kind, int place) {
        Due.is("fault(0)", x.fault(0), kind);
        Due.is("fault(1)", x.fault(1), place);
        for (int what : new int[] {Integer.MIN_VALUE, -1, 2, 9, 256, 257, Integer.MAX_VALUE}) {
            Due.is("fault(" + what + ")", x.fault(what), NONE);
        }
    }

    /** Behind a faulty TEXT the next one is read as if that had never been. */
    private static void faultyLeaveNothing() {
        Due.says("With another STATUS than 0 a call gives NONE, or false, and changes nothing else (but orders() with 9 the tape, "
                + "and what fault() tells).");
        LampYear x = World.school(30);
        Due.none(x, "RULES that strike", Due.orders(x, "a strikes z:room 1;b strikes c:room 2;d strikes a:room 41;", 0, 1), 9);
        Due.is(x, "RULES that don't", Due.orders(x, "c:room 5;z:pass 6;a:flag 7;", 0, 1), 3);
        for (int r = 0; r < 3; r++) {
            Due.is(x, "RULE " + r + " is not STRUCK", x.struck(0, 0, r), 0);
        }
        Due.none(x, "open brackets", Due.orders(x, "a:hours 1+(2*(3-((((4", 0, 1), 9);
        Due.is(x, "six brackets", Due.orders(x, "b:hours 2*((((((1+3))))))-1;", 0, 1), 1);
        Due.is(x, "HOURS", x.taught(0, 0, 2), 7);
        Due.none(x, "unless", Due.orders(x, "a:hours 1 unless 1=1 and not 1=2 or", 0, 1), 9);
        Due.is(x, "no unless", Due.orders(x, "d:hours 9;", 0, 1), 1);
        Due.is(x, "HOURS", x.taught(0, 0, 2), 9);
        LampYear not = World.school(30);
        Due.none(not, "not at the end", Due.orders(not, "a:may not", 0, 1), 9);
        Due.is(not, "no not", Due.orders(not, "a:may 1=1;", 0, 1), 1);
        Due.is(not, "it holds", not.taught(0, 0, 0), 1);
        // ten TEXTS of 600 bytes that are faulty at their end
        LampYear y = World.school(30);
        for (int i = 0; i < 10; i++) {
            Due.none(y, "600 bytes", Due.orders(y, "a:hours 1" + "+1".repeat(295) + "?", 0, 1), 9);
        }
        Due.is(y, "one of 600 bytes", Due.orders(y, ones(600, "295"), 0, 1), 1);
        Due.is(y, "295 ones", y.taught(0, 0, 0), 1);
    }
}

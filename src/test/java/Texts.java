import java.util.Random;

/** Texts of orders by chance: by the grammar, most of them, then some with a slip. */
final class Texts {
    private static final String[] LABELS = {"a", "b", "c", "dd", "eight", "letterss", "mays", "ors", "x", "y", "z", "notes"};
    private static final String[] VARIABLES = {"age", "tongue", "many", "week", "done", "rain", "shire"};
    private static final String[] WORDS = {"strikes", "may", "unless", "hours", "room", "pass", "flag", "or", "and", "not",
        "age", "tongue", "many", "week", "done", "rain", "shire", "a", "b", "nineteens", "letterss", "1", "12", "1234", "12345",
        "0", "40", "41", "100", "101", ";", ":", "<", ">", "=", "+", "-", "*", "/", "(", ")", "A", "\t", "\u00e9", "0000", ",", "<="};

    private final Random dice;
    private final StringBuilder out = new StringBuilder();

    private Texts(Random dice) {
        this.dice = dice;
    }

    static String text(Random dice) {
        Texts t = new Texts(dice);
        int r = dice.nextInt(40);
        if (r == 0) {
            t.manyRules();
        } else {
            for (int i = t.below(6); i >= 0 && t.out.length() < 480; i--) t.rule();
        }
        if (dice.nextInt(5) == 0) t.spoil();
        if (r == 1) return "";
        return t.out.length() > 600 ? t.out.substring(0, 600) : t.out.toString();
    }

    private int below(int n) {
        return dice.nextInt(n);
    }

    private String any(String[] of) {
        return of[below(of.length)];
    }

    /** A TOKEN; blanks are left out where they may be. */
    private void put(String s) {
        boolean lettersMeet = out.length() > 0 && sort(out.charAt(out.length() - 1)) == sort(s.charAt(0)) && sort(s.charAt(0)) > 0;
        if (lettersMeet || below(4) == 0) out.append(below(5) == 0 ? "\n" : below(9) == 0 ? "  \n " : " ");
        out.append(s);
    }

    private static int sort(char c) {
        return c >= 'a' && c <= 'z' ? 1 : c >= '0' && c <= '9' ? 2 : 0;
    }

    private void manyRules() {
        int n = 19 + below(4);
        for (int i = 0; i < n; i++) {
            put("" + (char) ('a' + i) + (below(12) == 0 ? "" : "q"));
            put(":");
            put("pass");
            put("" + below(4));
            put(";");
        }
    }

    private void rule() {
        put(below(4) == 0 ? any(LABELS) : any(LABELS) + (char) ('a' + below(26)));
        if (out.length() > 0 && below(4) == 0) {
            put("strikes");
            put(any(LABELS));
        }
        put(":");
        switch (below(8)) {
            case 0, 1 -> {
                put("may");
                test();
                unless();
            }
            case 2, 3, 4 -> {
                put("hours");
                sum(0);
                unless();
            }
            case 5 -> {
                put("room");
                put("" + (below(20) == 0 ? below(50) : 1 + below(8)));
            }
            case 6 -> {
                put("pass");
                put("" + (below(20) == 0 ? below(50) : below(6)));
            }
            default -> {
                put("flag");
                put("" + (below(20) == 0 ? below(130) : 1 + below(100)));
            }
        }
        put(";");
    }

    private void unless() {
        if (below(3) == 0) {
            put("unless");
            test();
        }
    }

    private void test() {
        part();
        while (below(4) == 0) {
            put("or");
            part();
        }
    }

    private void part() {
        one();
        while (below(4) == 0) {
            put("and");
            one();
        }
    }

    private void one() {
        if (below(4) == 0) put("not");
        sum(0);
        put(any(new String[] {"<", ">", "="}));
        sum(0);
    }

    private void sum(int depth) {
        item(depth);
        while (below(4) == 0) {
            put(below(2) == 0 ? "+" : "-");
            item(depth);
        }
    }

    private void item(int depth) {
        atom(depth);
        while (below(6) == 0) {
            put(below(2) == 0 ? "*" : "/");
            atom(depth);
        }
    }

    private void atom(int depth) {
        int r = below(10);
        if (r == 0 && depth < 7) {
            int n = below(12) == 0 ? 1 + below(7) : 1;
            for (int i = 0; i < n; i++) put("(");
            sum(depth + n);
            for (int i = 0; i < n; i++) put(")");
        } else if (r < 6) {
            put(any(VARIABLES));
        } else {
            put("" + (below(3) == 0 ? below(10000) : below(60)));
        }
    }

    private void spoil() {
        int at = below(out.length() + 1);
        switch (below(4)) {
            case 0 -> out.insert(at, " " + any(WORDS) + " ");
            case 1 -> out.insert(at, any(WORDS));
            case 2 -> out.setLength(at);
            default -> out.delete(at, Math.min(out.length(), at + 1 + below(6)));
        }
    }
}

/** What all tests of the project share: rows of calls with the answer that is due, and texts for the tape. */
final class Due {
    private static int wrong = 0;
    private static int asked = 0;
    private static String sentence = "";
    private static int askedAhead = 0;

    private Due() {
    }

    /** The sentence (or sentences, told one behind the other) of the document that the next answers are due by. */
    static void says(String ofDocument) {
        sentence = asked == askedAhead && asked > 0 ? sentence + " AND " + ofDocument : ofDocument;
        askedAhead = asked;
    }

    static void is(String what, long got, long want) {
        asked++;
        if (got != want) {
            wrong++;
            System.out.println(what + " answered " + got + ", due is " + want);
            if (!sentence.isEmpty()) {
                System.out.println("    by: " + sentence);
            }
        }
    }

    static void is(String what, boolean got, boolean want) {
        is(what, got ? 1L : 0L, want ? 1L : 0L);
    }

    /** An answer with STATUS 0. */
    static void is(LampYear x, String what, long got, long want) {
        is(what, got, want);
        is(what + ": status", x.status(), 0);
    }

    /** A call that gives NONE, for the reason that is due. */
    static void none(LampYear x, String what, long got, int why) {
        is(what, got, LampYear.NONE);
        is(what + ": status", x.status(), why);
    }

    static void yes(LampYear x, String what, boolean got) {
        is(what, got, true);
        is(what + ": status", x.status(), 0);
    }

    static void no(LampYear x, String what, boolean got, int why) {
        is(what, got, false);
        is(what + ": status", x.status(), why);
    }

    /** Feeds a text, filled up with 0 to twenties, and answers its length. */
    static int feed(LampYear x, String text) {
        for (int i = 0; i < text.length(); i += 20) {
            x.feed(four(text, i), four(text, i + 4), four(text, i + 8), four(text, i + 12), four(text, i + 16));
        }
        return text.length();
    }

    static int four(String text, int at) {
        int v = 0;
        for (int i = at; i < at + 4; i++) {
            v = v << 8 | (i < text.length() ? text.charAt(i) & 255 : 0);
        }
        return v;
    }

    static int orders(LampYear x, String text, int week, int shires) {
        return x.orders(feed(x, text), week, shires);
    }

    static long word(String letters) {
        long v = 0;
        for (int i = 0; i < letters.length(); i++) {
            v = v << 5 | letters.charAt(i) - 'a' + 1;
        }
        return v;
    }

    /** Ends the test: exit code 1 if an answer was not as due. */
    static void end() {
        System.out.println(wrong == 0 ? asked + " answers are as due" : wrong + " of " + asked + " answers are not as due");
        if (wrong != 0) {
            System.exit(1);
        }
    }
}

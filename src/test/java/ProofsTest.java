/** Promises 29 to 33: proof, slips, owed, reads, flag. */
public final class ProofsTest {
    private static final int NONE = LampYear.NONE;

    private ProofsTest() {
    }

    public static void main(String[] args) {
        words();
        sixtyProofs();
        fewestSlips();
        firstWay();
        owedByLesson();
        owedAsOf();
        passed();
        reading();
        flags();
        wrongAsking();
        Due.end();
    }

    private static LampYear land() {
        LampYear x = new LampYear();
        x.place(0);
        x.place(1);
        x.learner(0, 30, 0);
        x.learner(0, 30, 0);
        return x;
    }

    private static int prove(LampYear x, int learner, int week, String told, String written) {
        return x.proof(learner, week, Due.word(told), Due.word(written));
    }

    private static void words() {
        LampYear x = land();
        long a = 1;
        long[] wrong = {0, -1, 27, 31, 32, 1L << 40, 1L << 10, 33L << 35, Long.MIN_VALUE, Long.MAX_VALUE,
            27L << 35 | Due.word("aaaaaaa"), 1L << 10 | 1, Due.word("aaaaaaaaa"), 1L << 60 | 1, Long.MIN_VALUE | 1};
        for (long w : wrong) {
            Due.none(x, "told " + w, x.proof(0, 0, w, a), 1);
            Due.none(x, "written " + w, x.proof(0, 0, a, w), 1);
        }
        Due.none(x, "no such LEARNER", x.proof(2, 0, a, a), 1);
        Due.none(x, "no such LEARNER", x.proof(-1, 0, a, a), 1);
        Due.none(x, "no such WEEK", x.proof(0, 60, a, a), 1);
        Due.none(x, "no such WEEK", x.proof(0, -1, a, a), 1);
        Due.is(x, "a", x.proof(0, 0, 1, 1), 0);
        Due.is(x, "z", x.proof(0, 59, 26, 26), 1);
        Due.is(x, "eight z", prove(x, 1, 0, "zzzzzzzz", "a"), 2);
    }

    private static void sixtyProofs() {
        LampYear x = land();
        for (int i = 0; i < 60; i++) {
            Due.is(x, "proof", x.proof(0, i, 1, 1), i);
        }
        Due.none(x, "a 61st", x.proof(0, 0, 1, 1), 4);
        Due.none(x, "a 61st that can't be", x.proof(0, 0, 0, 1), 1);
        Due.is(x, "the 60th", x.slips(59, 0), 0);
        Due.none(x, "there is no 61st", x.slips(60, 0), 1);
    }

    private static void count(String told, String written, int want) {
        LampYear x = land();
        Due.is(x, told + " " + written, x.slips(prove(x, 0, 0, told, written), 0), want);
    }

    private static void fewestSlips() {
        count("lamp", "lamp", 0);
        count("lamp", "lump", 1);
        count("lamp", "lap", 1);
        count("lap", "lamp", 1);
        count("abcdefgh", "ijklmnop", 8);
        count("a", "bcdefghi", 8);
        count("abcdefgh", "bcdefgha", 2);
        count("kitten", "sitting", 3);
        count("aaaaaaaa", "a", 7);
        count("z", "aaaaaaaz", 7);
    }

    private static void firstWay() {
        World.slipsAreOf("ab", "b", "a");
        World.slipsAreOf("b", "ab", "a");
        World.slipsAreOf("abc", "abd", "c");
        // pairs first: a with b, then b is left out
        World.slipsAreOf("ab", "c", "ab");
        // a is written c, then b put in
        World.slipsAreOf("a", "cb", "ab");
        // pairs first, though unlike: ab to ba is two in place of others
        World.slipsAreOf("ab", "ba", "ab");
        // pair a with a, b with c, c left out - not b left out, c with c? that is fewer
        World.slipsAreOf("abc", "ac", "b");
        // pairing the first a needs one left out behind it
        World.slipsAreOf("aab", "ab", "a");
        World.slipsAreOf("abcd", "bcde", "ae");
        // one left out ahead of one put in, where no pair is as good
        World.slipsAreOf("abcab", "bcabd", "ad");
        World.slipsAreOf("abac", "cab", "abc");
    }

    private static LampYear school() {
        LampYear x = land();
        x.lamp(0);
        x.teacher(1, 0);
        x.note(0, 0, 0, 0, 59, 0);
        x.note(1, 0, 0, 0, 59, 0);
        return x;
    }

    private static void owedByLesson() {
        LampYear x = school();
        // letters at first: LESSON 0 a and p, LESSON 10 k and z, LESSON 11 l alone, LESSON 14 o alone
        int p = prove(x, 0, 0, "apkzlo", "qqqqqq");
        Due.is(x, "SLIPS", x.slips(p, 0), 6);
        Due.is(x, "OWED in WEEK 0", x.slips(p, 1), 6);
        Due.is(x, "OWN", x.slips(p, 2), 0);
        int[] want = {2, 0, 0, 0, 0, 0, 0, 0, 0, 0, 2, 1, 0, 0, 1};
        for (int k = 0; k < 15; k++) {
            Due.is(x, "OWED to " + k, x.owed(p, k), want[k]);
        }
        // behind WEEK 0 LESSON 0 is DONE; in WEEK 1 its letters are OWN
        int q = prove(x, 0, 1, "apkzlo", "qqqqqq");
        Due.is(x, "OWED to 0", x.owed(q, 0), 0);
        Due.is(x, "OWED in WEEK 1", x.slips(q, 1), 4);
        Due.is(x, "OWN in WEEK 1", x.slips(q, 2), 2);
        // another LEARNER knows nothing
        int r = prove(x, 1, 59, "apkzlo", "qqqqqq");
        Due.is(x, "OWED in WEEK 59", x.slips(r, 1), 6);
        // one put in is of the letter written
        int s = prove(x, 1, 0, "a", "ab");
        Due.is(x, "OWED to 1", x.owed(s, 1), 1);
        // the first LESSON that teaches it, even if that is DONE and a later one is not
        x.lesson(5, 6, 0, 1);
        Due.is(x, "LESSON 0 is the first", x.owed(q, 5), 0);
        x.lesson(0, 6, 0, 0);
        Due.is(x, "now LESSON 5", x.owed(q, 5), 1);
        Due.is(x, "p is taught by none", x.slips(q, 2), 1);
        Due.is(x, "p is taught by none, WEEK 0", x.slips(p, 2), 1);
        x.lesson(5, 6, 0, 32);
        Due.is(x, "nor a", x.slips(p, 2), 2);
    }

    private static void owedAsOf() {
        LampYear x = school();
        int p = prove(x, 0, 10, "a", "b");
        Due.is(x, "OWN", x.slips(p, 2), 1);
        x.note(2, 0, NONE, 0, 59, 7);
        Due.is(x, "OWED by what is KNOWN", x.slips(p, 1), 1);
        x.asof(6);
        Due.is(x, "as of 6", x.slips(p, 1), 0);
        Due.is(x, "a PROOF stays, whatever is KNOWN", x.slips(p, 0), 1);
        x.fade(1);
        x.asof(59);
        Due.is(x, "as of 59", x.owed(p, 0), 1);
    }

    private static void passed() {
        LampYear x = land();
        x.learner(1, 30, 0);
        int p = prove(x, 0, 5, "ab", "ba");
        int q = prove(x, 0, 5, "ab", "ab");
        int r = prove(x, 2, 5, "ab", "ba");
        int s = prove(x, 0, 4, "ab", "ba");
        Due.is(x, "PASS 0", x.slips(p, 3), 0);
        Due.is(x, "no SLIPS", x.slips(q, 3), 1);
        Due.orders(x, "a:pass 1;", 0, 15);
        Due.is(x, "PASS 1", x.slips(p, 3), 0);
        Due.orders(x, "a:pass 2;", 5, 1);
        Due.is(x, "PASS 2", x.slips(p, 3), 1);
        Due.is(x, "in the SHIRE of another HOME", x.slips(r, 3), 0);
        Due.is(x, "in another WEEK", x.slips(s, 3), 0);
    }

    private static void reading() {
        LampYear x = land();
        Due.is(x, "no PROOF", x.reads(0, 59), 0);
        prove(x, 0, 10, "a", "a");
        Due.is(x, "WEEK 9", x.reads(0, 9), 0);
        Due.is(x, "WEEK 10", x.reads(0, 10), 1);
        Due.is(x, "another LEARNER", x.reads(1, 59), 0);
        prove(x, 0, 5, "a", "b");
        Due.is(x, "told later, but of an earlier WEEK", x.reads(0, 10), 1);
        Due.is(x, "WEEK 9", x.reads(0, 9), 0);
        prove(x, 0, 10, "a", "b");
        Due.is(x, "of one WEEK that told later", x.reads(0, 10), 0);
        prove(x, 0, 10, "a", "a");
        Due.is(x, "of one WEEK that told later", x.reads(0, 59), 1);
        prove(x, 0, 20, "a", "b");
        Due.is(x, "a later WEEK", x.reads(0, 20), 0);
        Due.is(x, "ahead of it", x.reads(0, 19), 1);
        Due.orders(x, "a:pass 1;", 20, 1);
        Due.is(x, "PASSED by ORDERS that come later", x.reads(0, 20), 1);
    }

    private static void flags() {
        LampYear x = land();
        x.learner(0, 30, 0);
        Due.is(x, "none READS", x.flag(0, 5), 0);
        Due.is(x, "nobody's HOME", x.flag(1, 5), 0);
        Due.orders(x, "a:flag 1;", 0, 2);
        Due.is(x, "nobody's HOME with FLAG 1", x.flag(1, 5), 0);
        prove(x, 0, 5, "a", "a");
        prove(x, 1, 6, "a", "a");
        Due.is(x, "two of three", x.flag(0, 6), 0);
        Due.orders(x, "a:flag 67;", 0, 1);
        Due.is(x, "67 hundredths", x.flag(0, 6), 0);
        Due.orders(x, "a:flag 66;", 0, 1);
        Due.is(x, "66 hundredths", x.flag(0, 6), 1);
        Due.is(x, "one of three", x.flag(0, 5), 0);
        Due.orders(x, "a:flag 34;", 0, 1);
        Due.is(x, "34 hundredths", x.flag(0, 5), 0);
        Due.orders(x, "a:flag 33;", 5, 1);
        Due.is(x, "33 hundredths", x.flag(0, 5), 1);
        Due.is(x, "WEEK 4", x.flag(0, 4), 0);
        x = land();
        prove(x, 0, 0, "a", "a");
        prove(x, 1, 0, "a", "a");
        Due.is(x, "all", x.flag(0, 0), 1);
        x.learner(1, 30, 0);
        Due.is(x, "of this HOME alone", x.flag(0, 0), 1);
        Due.is(x, "the other PLACE", x.flag(1, 0), 0);
        prove(x, 2, 0, "a", "a");
        Due.is(x, "one alone", x.flag(1, 0), 1);
        Due.orders(x, "a:flag 50;", 0, 1);
        x.learner(0, 30, 0);
        x.learner(0, 30, 0);
        Due.is(x, "just 50 hundredths", x.flag(0, 0), 1);
        x.learner(0, 30, 0);
        Due.is(x, "below 50 hundredths", x.flag(0, 0), 0);
    }

    private static void wrongAsking() {
        LampYear x = land();
        Due.none(x, "no PROOF yet", x.slips(0, 0), 1);
        Due.none(x, "no PROOF yet", x.owed(0, 0), 1);
        prove(x, 0, 0, "a", "a");
        Due.none(x, "what 4", x.slips(0, 4), 1);
        Due.none(x, "what -1", x.slips(0, -1), 1);
        Due.none(x, "PROOF 1", x.slips(1, 0), 1);
        Due.none(x, "PROOF -1", x.slips(-1, 0), 1);
        Due.none(x, "PROOF 1", x.owed(1, 0), 1);
        Due.none(x, "PROOF -1", x.owed(-1, 0), 1);
        Due.none(x, "LESSON 15", x.owed(0, 15), 1);
        Due.none(x, "LESSON -1", x.owed(0, -1), 1);
        Due.none(x, "LEARNER 2", x.reads(2, 0), 1);
        Due.none(x, "LEARNER -1", x.reads(-1, 0), 1);
        Due.none(x, "WEEK 60", x.reads(0, 60), 1);
        Due.none(x, "WEEK -1", x.reads(0, -1), 1);
        Due.none(x, "PLACE 2", x.flag(2, 0), 1);
        Due.none(x, "PLACE -1", x.flag(-1, 0), 1);
        Due.none(x, "WEEK 60", x.flag(0, 60), 1);
        Due.none(x, "WEEK -1", x.flag(0, -1), 1);
    }
}

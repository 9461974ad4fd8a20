/** The edges of promises 29 to 33, sentence by sentence: words, slips, whose they are, who reads, flags. */
public final class EdgeProofsTest {
    private static final int NONE = LampYear.NONE;
    private static final long EIGHT = Due.word("lmnopqrs");

    private EdgeProofsTest() {
    }

    public static void main(String[] args) {
        words();
        proofsMany();
        whateverIsKnown();
        fewest();
        firstWay();
        oneBehindTheOther();
        ofWhichLetter();
        owedTo();
        aheadOfTheWeek();
        passed();
        slipsThatCant();
        owedThatCant();
        reads();
        flags();
        flagsOfForty();
        Due.end();
    }

    private static void taken(String what, long told, long written) {
        LampYear x = World.RICH.make();
        Due.is(x, what, x.proof(0, 0, told, written), World.PROOFS);
    }

    private static void refused(long word) {
        Edge.none("told " + word, World.RICH, x -> x.proof(0, 0, word, 1), 1);
        Edge.none("written " + word, World.RICH, x -> x.proof(0, 0, 1, word), 1);
    }

    private static void words() {
        Due.says("PROOFS, at most 60, numbered as they come: of a LEARNER in a WEEK (as they come, whatever is KNOWN): "
                + "a word told and a word written (1 to 8 letters, as numbers of 5 bits a letter: a 1 to z 26, the first letter "
                + "the highest).");
        for (int n = 1; n <= 8; n++) {
            long a = Due.word("a".repeat(n));
            long z = Due.word("z".repeat(n));
            taken(n + " letters", a, z);
            taken(n + " letters", z, a);
        }
        refused(0);
        refused(Due.word("aaaaaaaaa"));
        refused(Due.word("zzzzzzzzz"));
        refused(Due.word("aaaaaaaaaaaa"));
        refused(1L << 40);
        refused(1L << 40 | 1);
        refused(1L << 62 | 1);
        refused(-1);
        refused(Long.MIN_VALUE);
        refused(Long.MIN_VALUE | 1);
        refused(Long.MAX_VALUE);
        for (int at = 0; at < 8; at++) {
            long others = EIGHT & ~(31L << 5 * at);
            taken("a in place " + at, others | 1L << 5 * at, 1);
            taken("z in place " + at, 1, others | 26L << 5 * at);
            for (long wrong : new long[] {27, 28, 31}) {
                refused(others | wrong << 5 * at);
            }
            if (at < 7) {
                // nothing in between; at the highest it is a word of seven
                refused(others);
            }
        }
        taken("seven letters", EIGHT & ~(31L << 35), 1);
        LampYear x = World.RICH.make();
        x.proof(0, 0, EIGHT & ~(31L << 35), Due.word("mnopqrs"));
        Due.is(x, "the first letter is the highest", x.slips(World.PROOFS, 0), 0);
    }

    private static void proofsMany() {
        LampYear x = World.places(1);
        x.learner(0, 9, 0);
        for (int i = 0; i < 60; i++) {
            Due.is(x, "proof", x.proof(0, i, 1, i == 59 ? 2 : 1), i);
        }
        Due.is(x, "the 60th", x.slips(59, 0), 1);
        Due.is(x, "the first", x.slips(0, 0), 0);
        Due.none(x, "there is no 61st", x.slips(60, 0), 1);

        Due.says("A PROOF more: its number (1, 4).");
        Edge.ints("proof: LEARNER", World.RICH, 0, World.LEARNERS - 1, (y, v) -> y.proof(v, 0, 1, 1));
        Edge.ints("proof: WEEK", World.RICH, 0, 59, (y, v) -> y.proof(0, v, 1, 1));
        Edge.none("a 61st", World.FULL_PROOFS, y -> y.proof(0, 0, 1, 1), 4);
        Edge.none("a 61st: 1 ahead of 4", World.FULL_PROOFS, y -> y.proof(0, 60, 1, 1), 1);
        Edge.none("a 61st: 1 ahead of 4", World.FULL_PROOFS, y -> y.proof(World.LEARNERS, 0, 1, 1), 1);
        Edge.none("a 61st: 1 ahead of 4", World.FULL_PROOFS, y -> y.proof(0, 0, 0, 1), 1);
        Edge.none("a 61st: 1 ahead of 4", World.FULL_PROOFS, y -> y.proof(0, 0, 1, 27), 1);
    }

    private static void whateverIsKnown() {
        LampYear x = World.school(30);
        x.asof(0);
        Due.is(x, "a PROOF of WEEK 59 as of WEEK 0", World.prove(x, 0, 59, "a", "a"), 0);
        Due.is(x, "it counts", x.reads(0, 59), 1);
        Due.is(x, "a PROOF of WEEK 0 behind one of WEEK 59", World.prove(x, 0, 0, "a", "b"), 1);
        Due.is(x, "it counts, too", x.reads(0, 0), 0);
        Due.is(x, "till then", x.reads(0, 58), 0);
    }

    private static void slips(String told, String written, int want) {
        LampYear x = World.places(1);
        x.learner(0, 9, 0);
        World.prove(x, 0, 0, told, written);
        Due.is(x, told + " to " + written, x.slips(0, 0), want);
    }

    private static void fewest() {
        Due.says("SLIPS: the fewest letters put in, left out or written in place of another one by which the word told becomes "
                + "that written.");
        slips("a", "a", 0);
        slips("a", "z", 1);
        slips("a", "ab", 1);
        slips("ab", "a", 1);
        slips("abcdefgh", "abcdefgh", 0);
        slips("abcdefgh", "stuvwxyz", 8);
        slips("abcdefgh", "z", 8);
        slips("z", "abcdefgh", 8);
        slips("abcdefgh", "h", 7);
        slips("h", "abcdefgh", 7);
        slips("abcdefgh", "hgfedcba", 8);
        slips("abcdefgh", "bcdefghi", 2);
        slips("aaaaaaaa", "aaaaaaab", 1);
        slips("aaaaaaaa", "baaaaaaa", 1);
        slips("abababab", "babababa", 2);
        slips("ab", "ba", 2);
        slips("abc", "cab", 2);
    }

    private static void firstWay() {
        Due.says("Of several ways the first: from the words' beginnings on, at each step: two letters that pair (like or unlike), "
                + "ahead of one left out, ahead of one put in.");
        // a pairs with c, then b is left out - not a left out and b paired with c
        World.slipsAreOf("ab", "c", "ab");
        // a pairs with b, then c is put in - not b put in and a paired with c
        World.slipsAreOf("a", "bc", "ac");
        // a with b and b with a - not a left out and a put in behind b (of which both SLIPS would be a's)
        World.slipsAreOf("ab", "ba", "ab");
        // a pairs with a, the second a is left out
        World.slipsAreOf("aab", "ab", "a");
        // two SLIPS by leaving a out and putting d in; three pairs unlike would be more
        World.slipsAreOf("abc", "bcd", "ad");
        // like letters may pair with a slip later: a with a, b with c, c left out is two; leaving b out is one
        World.slipsAreOf("abc", "ac", "b");
        // none pairs at first (two SLIPS then): c is put in, a and b pair, c is left out
        World.slipsAreOf("abc", "cab", "cc");
        // left out ahead of put in: a is left out first, then b, c, d pair, and a is put in
        World.slipsAreOf("abcd", "bcda", "aa");
        World.slipsAreOf("abcdefgh", "ijklmno", "abcdefgh");
        World.slipsAreOf("abc", "ijklmnoa", "abclmnoa");
    }

    /** SLIPS of a PROOF are its own, whatever words were told ahead of it. */
    private static void oneBehindTheOther() {
        String[] words = {"a", "ab", "abc", "abcdefgh", "b", "aby", "abx", "hgfedcba", "z", "bcdefghi"};
        for (int i = 0; i < words.length; i++) {
            for (int j = 0; j < words.length; j++) {
                LampYear x = World.places(1);
                x.learner(0, 9, 0);
                World.prove(x, 0, 0, "abcdefgh", "abcdefgz");
                World.prove(x, 0, 0, words[i], words[j]);
                World.prove(x, 0, 0, "abx", "aby");
                World.prove(x, 0, 0, words[j], words[i]);
                World.prove(x, 0, 0, "ab", "a");
                World.prove(x, 0, 0, "a", "ab");
                Due.is(x, "first", x.slips(0, 0), 1);
                Due.is(x, words[i] + " to " + words[j] + " and back", x.slips(1, 0), x.slips(3, 0));
                Due.is(x, "b left out", x.owed(4, 1), 1);
                Due.is(x, "b put in", x.owed(5, 1), 1);
                LampYear alone = World.places(1);
                alone.learner(0, 9, 0);
                World.prove(alone, 0, 0, words[i], words[j]);
                for (int k = 0; k < 15; k++) {
                    Due.is(x, words[i] + " to " + words[j] + " as if it were alone", x.owed(1, k), alone.owed(0, k));
                }
            }
        }
    }

    private static void ofWhichLetter() {
        Due.says("A SLIP is of the letter told (of one put in: of that written), and OWED to the first LESSON that teaches it, "
                + "if that was not DONE behind the WEEK ahead (all are not ahead of WEEK 0); else it is OWN (also of a letter that "
                + "no LESSON teaches).");
        World.slipsAreOf("a", "b", "a");
        World.slipsAreOf("ab", "b", "a");
        World.slipsAreOf("b", "ab", "a");
        World.slipsAreOf("b", "ba", "a");
        LampYear x = World.places(1);
        x.learner(0, 9, 0);
        for (int k = 0; k < 15; k++) {
            x.lesson(k, 6, 0, k == 3 || k == 7 ? 1 : 0);
        }
        World.prove(x, 0, 0, "ab", "cd");
        Due.is(x, "the first LESSON that teaches it", x.owed(0, 3), 1);
        Due.is(x, "not the second", x.owed(0, 7), 0);
        Due.is(x, "OWED", x.slips(0, 1), 1);
        Due.is(x, "OWN: b is taught by none", x.slips(0, 2), 1);
        x.lesson(0, 6, 0, 3);
        Due.is(x, "now LESSON 0, both", x.owed(0, 0), 2);
        Due.is(x, "OWN", x.slips(0, 2), 0);
    }

    private static void owedTo() {
        LampYear x = World.school(30);
        for (int k = 0; k < 15; k++) {
            x.lesson(k, 6, 0, k == 2 || k == 9 ? 1 : 0);
        }
        World.prove(x, 0, 2, "a", "b");
        World.prove(x, 0, 3, "a", "b");
        Due.is(x, "LESSON 2 is not DONE behind WEEK 1", x.owed(0, 2), 1);
        Due.is(x, "LESSON 2 is DONE behind WEEK 2", x.owed(1, 2), 0);
        Due.is(x, "nor is it the next LESSON's that is not DONE", x.owed(1, 9), 0);
        Due.is(x, "it is OWN", x.slips(1, 2), 1);
        Due.is(x, "SLIPS are both", x.slips(1, 0), x.slips(1, 1) + x.slips(1, 2));
    }

    private static void aheadOfTheWeek() {
        // LESSON 0 is DONE behind WEEK 0
        LampYear x = World.school(30);
        World.prove(x, 0, 0, "a", "b");
        World.prove(x, 0, 1, "a", "b");
        World.prove(x, 0, 59, "a", "b");
        Due.is(x, "WEEK 0: none is DONE ahead of it", x.slips(0, 1), 1);
        Due.is(x, "WEEK 1", x.slips(1, 1), 0);
        Due.is(x, "WEEK 59", x.slips(2, 1), 0);
        Due.is(x, "WEEK 0: OWED to LESSON 0", x.owed(0, 0), 1);
        Due.is(x, "WEEK 1: OWED to LESSON 0", x.owed(1, 0), 0);
        Due.is(x, "WEEK 59: OWED to LESSON 0", x.owed(2, 0), 0);
        x.note(2, 0, NONE, 0, 59, 59);
        Due.is(x, "by what is KNOWN now", x.slips(1, 1), 1);
        x.asof(58);
        Due.is(x, "as of 58", x.slips(1, 1), 0);
        // it was DONE, but is forgotten
        LampYear y = World.school(30);
        y.note(2, 0, NONE, 1, 59, 0);
        World.prove(y, 0, 5, "a", "b");
        World.prove(y, 0, 6, "a", "b");
        Due.is(y, "DONE behind WEEK 4", y.slips(0, 2), 1);
        Due.is(y, "lost in WEEK 5", y.slips(1, 1), 1);
    }

    private static void passed() {
        Due.says("PASSED is a PROOF, if its SLIPS are at most PASS in the SHIRE of the LEARNER's HOME in its WEEK.");
        String told = "abcdefgh";
        for (int slips = 0; slips <= 8; slips++) {
            for (int pass = 0; pass <= 9; pass++) {
                LampYear x = World.places(1);
                x.learner(0, 9, 0);
                World.prove(x, 0, 30, told, "z".repeat(slips) + told.substring(slips));
                Due.orders(x, "a:pass " + pass + ";", 30, 1);
                Due.is(x, slips + " SLIPS, PASS " + pass, x.slips(0, 3), slips <= pass ? 1 : 0);
            }
        }
        LampYear y = new LampYear();
        y.place(0);
        y.place(3);
        y.learner(1, 9, 0);
        y.lamp(0);
        y.note(1, 0, 0, 0, 59, 0);
        World.prove(y, 0, 30, "a", "b");
        World.prove(y, 0, 29, "a", "b");
        World.prove(y, 0, 31, "a", "a");
        Due.is(y, "without a RULE: 1 SLIP", y.slips(0, 3), 0);
        Due.is(y, "without a RULE: none", y.slips(2, 3), 1);
        Due.orders(y, "a:pass 40;", 0, 7);
        Due.is(y, "the LAMP's SHIRE does not count", y.slips(0, 3), 0);
        Due.orders(y, "a:pass 1;", 30, 8);
        Due.is(y, "the HOME's SHIRE counts", y.slips(0, 3), 1);
        Due.is(y, "not the WEEK ahead", y.slips(1, 3), 0);
        Due.orders(y, "a:pass 0;", 31, 8);
        Due.is(y, "a later WEEK does not count", y.slips(0, 3), 1);
    }

    private static void slipsThatCant() {
        Due.says("Of a PROOF, what 0: SLIPS, 1: those OWED, 2: those OWN; 3: whether it is PASSED: 1 or 0 (1).");
        Edge.ints("slips: PROOF", World.RICH, 0, World.PROOFS - 1, (x, v) -> x.slips(v, 0));
        Edge.ints("slips: what", World.RICH, 0, 3, (x, v) -> x.slips(0, v));
        Edge.ints("slips: of 60", World.FULL_PROOFS, 0, 59, (x, v) -> x.slips(v, 1));
        Edge.none("slips: no PROOF at all", World.NEW, x -> x.slips(0, 0), 1);
    }

    private static void owedThatCant() {
        Due.says("How many SLIPS of a PROOF are OWED to a LESSON (1).");
        Edge.ints("owed: PROOF", World.RICH, 0, World.PROOFS - 1, (x, v) -> x.owed(v, 0));
        Edge.ints("owed: LESSON", World.RICH, 0, 14, (x, v) -> x.owed(0, v));
        Edge.none("owed: no PROOF at all", World.NEW, x -> x.owed(0, 0), 1);
        LampYear x = World.places(1);
        x.learner(0, 9, 0);
        World.prove(x, 0, 0, "oooooooo", "b");
        Due.is(x, "eight to the last LESSON", x.owed(0, 14), 8);
        Due.is(x, "none to the first", x.owed(0, 0), 0);
        World.prove(x, 0, 0, "aaaaaaaa", "aaaaaaaa");
        Due.is(x, "no SLIPS", x.owed(1, 0), 0);
    }

    private static void reads() {
        Due.says("READS: a LEARNER in a WEEK, if the latest PROOF by then (of one WEEK that told later) is PASSED.");
        LampYear x = World.places(1);
        x.learner(0, 9, 0);
        x.learner(0, 9, 0);
        Due.is(x, "no PROOF", x.reads(0, 59), 0);
        World.prove(x, 0, 59, "a", "a");
        Due.is(x, "WEEK 58", x.reads(0, 58), 0);
        Due.is(x, "WEEK 59", x.reads(0, 59), 1);
        World.prove(x, 0, 0, "a", "a");
        Due.is(x, "WEEK 0", x.reads(0, 0), 1);
        World.prove(x, 0, 1, "a", "b");
        int[][] want = {{0, 1}, {1, 0}, {2, 0}, {58, 0}, {59, 1}};
        for (int[] w : want) {
            Due.is(x, "WEEK " + w[0], x.reads(0, w[0]), w[1]);
        }
        World.prove(x, 0, 1, "a", "a");
        Due.is(x, "of one WEEK that told later", x.reads(0, 1), 1);
        World.prove(x, 0, 1, "a", "b");
        Due.is(x, "and later still", x.reads(0, 1), 0);
        World.prove(x, 0, 0, "a", "b");
        Due.is(x, "told later, of an earlier WEEK", x.reads(0, 59), 1);
        Due.is(x, "it counts there", x.reads(0, 0), 0);
        Due.is(x, "another LEARNER", x.reads(1, 59), 0);

        Due.says("Whether a LEARNER READS in a WEEK: 1 or 0 (1).");
        Edge.ints("reads: LEARNER", World.RICH, 0, World.LEARNERS - 1, (y, v) -> y.reads(v, 0));
        Edge.ints("reads: WEEK", World.RICH, 0, 59, (y, v) -> y.reads(0, v));
    }

    private static void flags() {
        Due.says("Whether a FLAG is up: 1 or 0 (1).");
        Edge.ints("flag: PLACE", World.RICH, 0, World.PLACES - 1, (x, v) -> x.flag(v, 0));
        Edge.ints("flag: PLACE of 16", World.FULL_PLACES, 0, 15, (x, v) -> x.flag(v, 0));
        Edge.ints("flag: WEEK", World.RICH, 0, 59, (x, v) -> x.flag(0, v));

        Due.says("A FLAG is up in a PLACE in a WEEK, if of the LEARNERS whose HOME it is (one at least) so many READ that they are "
                + "FLAG hundredths or more.");
        LampYear x = World.places(2);
        Due.orders(x, "a:flag 1;", 0, 1);
        Due.is(x, "nobody's HOME", x.flag(0, 59), 0);
        x.learner(0, 9, 0);
        Due.is(x, "one, who does not READ", x.flag(0, 59), 0);
        World.prove(x, 0, 30, "a", "a");
        Due.is(x, "one, who READS", x.flag(0, 30), 1);
        Due.is(x, "the WEEK ahead", x.flag(0, 29), 0);
        Due.is(x, "another PLACE", x.flag(1, 30), 0);
        Due.orders(x, "a:flag 100;", 0, 1);
        Due.is(x, "all of one", x.flag(0, 30), 1);
        x.learner(1, 9, 0);
        Due.is(x, "others don't count", x.flag(0, 30), 1);
        x.learner(0, 9, 0);
        Due.is(x, "one of two, FLAG 100", x.flag(0, 30), 0);
        Due.orders(x, "a:flag 51;", 40, 1);
        Due.is(x, "one of two, FLAG 51", x.flag(0, 40), 0);
        Due.orders(x, "a:flag 50;", 41, 1);
        Due.is(x, "one of two, FLAG 50", x.flag(0, 41), 1);
        Due.is(x, "FLAG is that of the WEEK", x.flag(0, 40), 0);
    }

    /** So many LEARNERS of one HOME, of whom so many READ, with a FLAG. */
    private static int flagOf(int all, int readers, int flag) {
        LampYear x = World.places(1);
        for (int i = 0; i < all; i++) {
            x.learner(0, 9, 0);
            if (i < readers) {
                World.prove(x, i, 0, "a", "a");
            }
        }
        Due.orders(x, "a:flag " + flag + ";", 0, 1);
        return x.flag(0, 0);
    }

    private static void flagsOfForty() {
        int[][] want = {{40, 40, 100, 1}, {40, 39, 100, 0}, {40, 39, 97, 1}, {40, 39, 98, 0}, {40, 0, 1, 0}, {40, 1, 1, 1}, {40, 1, 2, 1},
            {40, 1, 3, 0}, {40, 2, 5, 1}, {40, 2, 6, 0}, {40, 20, 50, 1}, {40, 20, 51, 0}, {40, 19, 48, 0}, {40, 19, 47, 1},
            {3, 1, 33, 1}, {3, 1, 34, 0}, {3, 2, 66, 1}, {3, 2, 67, 0}, {3, 3, 100, 1}, {7, 5, 71, 1}, {7, 5, 72, 0}, {1, 0, 1, 0}};
        for (int[] w : want) {
            Due.is(w[1] + " of " + w[0] + ", FLAG " + w[2], flagOf(w[0], w[1], w[2]), w[3]);
        }
    }
}

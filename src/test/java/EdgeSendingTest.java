/** The edges of promises 34 to 37, sentence by sentence: who is sent where, counts, the nearest lamp. */
public final class EdgeSendingTest {
    private static final int NONE = LampYear.NONE;
    private static final int MIN = Integer.MIN_VALUE;
    private static final int MAX = Integer.MAX_VALUE;

    private EdgeSendingTest() {
    }

    public static void main(String[] args) {
        oneToSeven();
        sendThatCant();
        askedInOrder();
        noSuchOneTwice();
        cantBe();
        tongues();
        best();
        sent();
        counts();
        lowAndHigh();
        near();
        nearRoom();
        nearThatCant();
        Due.end();
    }

    /** All LAMPS and TEACHERS there can be in one PLACE; TRAY 0 has LAMPS 0 to 7, TRAY 1 TEACHERS 19 to 12. */
    private static LampYear full() {
        LampYear x = World.places(1);
        for (int i = 0; i < 20; i++) {
            x.teacher(1, 0);
            x.lamp(0);
        }
        World.fill(x, 0, 0, 0, 1, 2, 3, 4, 5, 6, 7);
        World.fill(x, 1, 3, 19, 18, 17, 16, 15, 14, 13, 12);
        return x;
    }

    private static final World.Make FULL = EdgeSendingTest::full;

    private static World.Make with(int tray, int place, long v) {
        return () -> {
            LampYear x = full();
            x.write(tray, place, v);
            return x;
        };
    }

    private static void oneToSeven() {
        Due.says("SENT are TEACHERS to LAMPS, 1 to 7, each to one of its own, from where they wait, in a WEEK; one can go to a LAMP "
                + "if there is an ARRIVAL, and the TEACHER has the LAMP's TONGUE: that of most LEARNERS whose LAMP it is in that "
                + "WEEK (of like ones the lesser; if it is nobody's, any TEACHER can go).");
        Edge.ints("send: many", FULL, 1, 7, (x, v) -> x.send(0, 1, v, 0));
        for (int many = 1; many <= 7; many++) {
            LampYear x = full();
            Due.is(x, many + " are SENT", x.send(0, 1, many, 59), 59);
            for (int k = 0; k < many; k++) {
                Due.is(x, "to LAMP " + k + " of " + many, x.sent(k), 20 - many + k);
            }
            Due.none(x, "no more", x.sent(many), 6);
        }
        LampYear y = full();
        World.fill(y, 2, 2, 11);
        World.fill(y, 3, 1, 19);
        Due.is(y, "the last TEACHER to the last LAMP", y.send(2, 3, 1, 0), 0);
        Due.is(y, "sent", y.sent(0), 19);
    }

    private static void sendThatCant() {
        Due.says("The latest ARRIVAL of BEST: TEACHERS, the first numbers of a TRAY, to LAMPS, the first numbers of another one, "
                + "so many, in a WEEK (1; 2; 3; 1: no such LAMP or TEACHER, one twice; 6: it can't be; each asked of the LAMPS' TRAY "
                + "first; in this order).");
        for (int v : new int[] {-1, 4, 256, MIN, MAX}) {
            Edge.none("send: LAMPS' TRAY " + v, FULL, x -> x.send(v, 1, 1, 0), 1);
            Edge.none("send: TEACHERS' TRAY " + v, FULL, x -> x.send(0, v, 1, 0), 1);
        }
        Edge.ints("send: WEEK", FULL, 0, 59, (x, v) -> x.send(0, 1, 1, v));
        Edge.none("send: LAMPS' TRAY is MISSING", FULL, x -> x.send(2, 1, 1, 0), 2);
        Edge.none("send: TEACHERS' TRAY is MISSING", FULL, x -> x.send(0, 2, 1, 0), 2);
        Edge.none("send: both are MISSING", FULL, x -> x.send(3, 2, 1, 0), 2);
        for (int many = 0; many < 7; many++) {
            int has = many;
            World.Make fewLamps = () -> {
                LampYear x = full();
                x.tray(2, 0, has);
                for (int i = 0; i < has; i++) {
                    x.write(2, i, i);
                }
                return x;
            };
            Edge.none("send: " + (has + 1) + " LAMPS of " + has, fewLamps, x -> x.send(2, 1, has + 1, 0), 3);
            Edge.none("send: " + (has + 1) + " TEACHERS of " + has, fewLamps, x -> x.send(0, 2, has + 1, 0), 3);
            Edge.none("send: both have too few", fewLamps, x -> x.send(2, 2, has + 1, 0), 3);
            if (has > 0) {
                LampYear x = fewLamps.make();
                Due.is(x, "just as many as there are", x.send(2, 1, has, 0), 0);
                Due.is(x, "just as many as there are", x.send(0, 2, has, 0), 0);
            }
        }
    }

    private static void askedInOrder() {
        World.Make wrong = () -> {
            LampYear x = full();
            World.fill(x, 2, 0, 99);
            return x;
        };
        Edge.none("send: 1 ahead of 2: many 0", wrong, x -> x.send(3, 3, 0, 0), 1);
        Edge.none("send: 1 ahead of 2: many 8", wrong, x -> x.send(3, 1, 8, 0), 1);
        Edge.none("send: 1 ahead of 2: WEEK 60", wrong, x -> x.send(0, 3, 1, 60), 1);
        Edge.none("send: 1 of the TEACHERS' TRAY ahead of 2 of the LAMPS'", wrong, x -> x.send(3, 4, 1, 0), 1);
        Edge.none("send: 1 ahead of 3: many 8", wrong, x -> x.send(2, 1, 8, 0), 1);
        Edge.none("send: 1 ahead of 3: WEEK -1", wrong, x -> x.send(2, 1, 2, -1), 1);
        Edge.none("send: 2 of the TEACHERS' TRAY ahead of 3 of the LAMPS'", wrong, x -> x.send(2, 3, 2, 0), 2);
        Edge.none("send: 2 of the LAMPS' TRAY ahead of 3 of the TEACHERS'", wrong, x -> x.send(3, 2, 2, 0), 2);
        Edge.none("send: 2 ahead of no such LAMP", wrong, x -> x.send(2, 3, 1, 0), 2);
        Edge.none("send: 3 of the TEACHERS' TRAY ahead of no such LAMP", wrong, x -> x.send(1, 2, 2, 0), 3);
        Edge.none("send: 3 of the LAMPS' TRAY ahead of no such LAMP", wrong, x -> x.send(2, 1, 2, 0), 3);
        Edge.none("send: no such LAMP", wrong, x -> x.send(2, 1, 1, 0), 1);
        Edge.none("send: no such TEACHER", wrong, x -> x.send(0, 2, 1, 0), 1);
        // no such TEACHER, and no ARRIVAL for the first one: the LAMP is where no WAY goes
        World.Make apart = () -> {
            LampYear x = World.places(2);
            x.lamp(1);
            x.lamp(0);
            x.teacher(1, 0);
            x.teacher(1, 0);
            World.fill(x, 0, 0, 0, 1);
            World.fill(x, 1, 0, 0, 1);
            World.fill(x, 2, 0, 0, 2);
            World.fill(x, 3, 0, 0, 0);
            return x;
        };
        Edge.none("send: it can't be", apart, x -> x.send(0, 1, 2, 0), 6);
        Edge.none("send: no such TEACHER ahead of 6", apart, x -> x.send(0, 2, 2, 0), 1);
        Edge.none("send: no such LAMP ahead of 6", apart, x -> x.send(2, 1, 2, 0), 1);
        Edge.none("send: a TEACHER twice ahead of 6", apart, x -> x.send(0, 3, 2, 0), 1);
        Edge.none("send: a LAMP twice ahead of 6", apart, x -> x.send(3, 1, 2, 0), 1);
    }

    private static void noSuchOneTwice() {
        for (long v : new long[] {-1, -128, 12, 20, 64, 127}) {
            Edge.none("send: LAMP " + v, with(0, 6, v), x -> x.send(0, 1, 7, 0), 1);
            Due.is("only the first numbers count", with(0, 6, v).make().send(0, 1, 6, 0), 0);
        }
        for (long v : new long[] {-1, 20, 64, 256, 65_536, 1L << 32, 1L << 32 | 1, Long.MIN_VALUE, Long.MAX_VALUE}) {
            Edge.none("send: TEACHER " + v, with(1, 6, v), x -> x.send(0, 1, 7, 0), 1);
            Due.is("only the first numbers count", with(1, 6, v).make().send(0, 1, 6, 0), 0);
        }
        Due.is("LAMP 11", with(0, 6, 11).make().send(0, 1, 7, 0), 0);
        Due.is("TEACHER 0", with(1, 6, 0).make().send(0, 1, 7, 0), 0);
        Edge.none("send: the first LAMP again as the 7th", with(0, 6, 0), x -> x.send(0, 1, 7, 0), 1);
        Edge.none("send: the 6th LAMP again as the 7th", with(0, 6, 5), x -> x.send(0, 1, 7, 0), 1);
        Edge.none("send: the first TEACHER again as the 7th", with(1, 6, 19), x -> x.send(0, 1, 7, 0), 1);
        Edge.none("send: the 6th TEACHER again as the 7th", with(1, 6, 14), x -> x.send(0, 1, 7, 0), 1);
        Due.is("twice, but behind the first six", with(0, 6, 5).make().send(0, 1, 6, 0), 0);
        // a TEACHER may bear the number of a LAMP
        LampYear x = full();
        Due.is(x, "one TRAY for both", x.send(0, 0, 7, 0), 0);
        Edge.none("send: no LAMP at all", () -> {
            LampYear y = new LampYear();
            y.tray(0, 0, 1);
            return y;
        }, y -> y.send(0, 0, 1, 0), 1);
    }

    /** PLACES in a row, three WEEKS apart. */
    private static LampYear row(int places) {
        LampYear x = World.places(places);
        for (int i = 1; i < places; i++) {
            x.way(i - 1, i, 3, NONE, NONE);
        }
        return x;
    }

    private static void cantBe() {
        Due.says("one can go to a LAMP if there is an ARRIVAL");
        LampYear x = row(2);
        x.lamp(1);
        x.teacher(1, 0);
        World.fill(x, 0, 0, 0);
        World.fill(x, 1, 0, 0);
        Due.is(x, "ARRIVAL in WEEK 59", x.send(0, 1, 1, 56), 59);
        Due.none(x, "ARRIVAL behind WEEK 59", x.send(0, 1, 1, 57), 6);
        // both can go to LAMP 0 alone: LAMP 1 is for TONGUE 4
        LampYear y = World.places(1);
        y.lamp(0);
        y.lamp(0);
        y.teacher(15, 0);
        y.teacher(15, 0);
        y.learner(0, 9, 4);
        y.note(1, 0, 1, 0, 58, 0);
        World.fill(y, 0, 0, 0, 1);
        World.fill(y, 1, 0, 0, 1);
        Due.none(y, "each to one of its own", y.send(0, 1, 2, 58), 6);
        Due.is(y, "a WEEK later it is nobody's", y.send(0, 1, 2, 59), 59);
        Due.is(y, "one alone", y.send(0, 1, 1, 58), 58);
        y.teacher(16, 0);
        y.write(1, 1, 2);
        Due.is(y, "with one who has the TONGUE", y.send(0, 1, 2, 58), 58);
        Due.is(y, "to LAMP 0", y.sent(0), 0);
        Due.is(y, "to LAMP 1", y.sent(1), 2);
    }

    /** Whether a TEACHER with TONGUES can go to a LAMP of LEARNERS with these TONGUES. */
    private static boolean can(int tongues, int... learners) {
        LampYear x = World.places(1);
        x.lamp(0);
        x.teacher(tongues, 0);
        for (int i = 0; i < learners.length; i++) {
            x.learner(0, 9, learners[i]);
            x.note(1, i, 0, 5, 5, 0);
        }
        World.fill(x, 0, 0, 0);
        World.fill(x, 1, 0, 0);
        Due.is("the WEEK ahead it is nobody's", x.send(0, 1, 1, 4), 4);
        Due.is("the WEEK behind it is nobody's", x.send(0, 1, 1, 6), 6);
        return x.send(0, 1, 1, 5) == 5;
    }

    private static void tongues() {
        Due.says("that of most LEARNERS whose LAMP it is in that WEEK (of like ones the lesser; if it is nobody's, any TEACHER can go).");
        for (int tongue = 0; tongue < 5; tongue++) {
            Due.is("one of TONGUE " + tongue, can(1 << tongue, tongue), true);
            Due.is("without TONGUE " + tongue, can(31 - (1 << tongue), tongue), false);
        }
        Due.is("nobody's", can(1), true);
        Due.is("1 and 0: the lesser", can(1, 1, 0), true);
        Due.is("1 and 0: the greater", can(2, 1, 0), false);
        Due.is("4 and 3: the lesser", can(8, 4, 3), true);
        Due.is("4 and 3: the greater", can(16, 4, 3), false);
        Due.is("all five alike: the least", can(1, 4, 3, 2, 1, 0), true);
        Due.is("all five alike: the others", can(30, 4, 3, 2, 1, 0), false);
        Due.is("two of 4, one of 0", can(16, 4, 0, 4), true);
        Due.is("two of 4, one of 0", can(15, 4, 0, 4), false);
        Due.is("two of 1 and 2 each, one of 0: the lesser of the most", can(2, 2, 1, 0, 1, 2), true);
        Due.is("two of 1 and 2 each, one of 0: not the greater", can(29, 2, 1, 0, 1, 2), false);
        int[] forty = new int[40];
        for (int i = 0; i < 40; i++) {
            forty[i] = i < 19 ? 0 : 4;
        }
        Due.is("21 of 40", can(16, forty), true);
        Due.is("19 of 40", can(1, forty), false);
        forty[19] = 0;
        Due.is("20 of 40, and the lesser", can(1, forty), true);
    }

    private static void best() {
        Due.says("BEST: the least latest ARRIVAL; then the least sum of these; of several LAMP by LAMP (as they were told) "
                + "the lesser TEACHER.");
        // LAMPS in PLACES 0 and 1 of a row, TEACHERS in 1 and 3: 3 and 6, or 9 and 0
        LampYear x = row(4);
        x.lamp(0);
        x.lamp(1);
        x.teacher(1, 1);
        x.teacher(1, 3);
        World.fill(x, 0, 0, 0, 1);
        World.fill(x, 1, 0, 0, 1);
        Due.is(x, "the least latest: 6, not 9", x.send(0, 1, 2, 0), 6);
        Due.is(x, "LAMP 0", x.sent(0), 0);
        Due.is(x, "LAMP 1", x.sent(1), 1);
        Due.is(x, "in WEEK 53", x.send(0, 1, 2, 53), 59);
        Due.none(x, "in WEEK 54", x.send(0, 1, 2, 54), 6);
        // three LAMPS: LAMP 2 is reached by TEACHER 2 alone, in 9; the others by least sum, though TEACHER 0 were the lesser
        LampYear y = World.places(6);
        y.way(0, 3, 5, NONE, NONE);
        y.way(1, 4, 5, NONE, NONE);
        y.way(0, 4, 1, NONE, NONE);
        y.way(1, 3, 1, NONE, NONE);
        y.way(2, 5, 9, NONE, NONE);
        for (int p = 0; p < 3; p++) {
            y.lamp(p);
            y.teacher(1, p + 3);
        }
        World.fill(y, 0, 0, 0, 1, 2);
        World.fill(y, 1, 0, 0, 1, 2);
        Due.is(y, "the latest is 9", y.send(0, 1, 3, 0), 9);
        Due.is(y, "the least sum: LAMP 0", y.sent(0), 1);
        Due.is(y, "the least sum: LAMP 1", y.sent(1), 0);
        Due.is(y, "LAMP 2", y.sent(2), 2);
        // all alike: LAMP by LAMP the lesser, whatever the TRAY's order
        LampYear z = full();
        World.fill(z, 0, 0, 9, 3, 6);
        World.fill(z, 1, 0, 7, 19, 0);
        Due.is(z, "all wait there", z.send(0, 1, 3, 7), 7);
        Due.is(z, "the first told", z.sent(0), 0);
        Due.is(z, "the second", z.sent(1), 7);
        Due.is(z, "the third", z.sent(2), 19);
    }

    private static void sent() {
        Due.says("The TEACHER who is SENT to the k-th LAMP, by send() latest with STATUS 0 (1: below 0; 6).");
        Edge.none("sent ahead of any", World.NEW, x -> x.sent(0), 6);
        Edge.none("sent(-1) ahead of any", World.NEW, x -> x.sent(-1), 1);
        Edge.none("sent(-1)", World.RICH, x -> x.sent(-1), 1);
        Edge.none("sent(MIN)", World.RICH, x -> x.sent(MIN), 1);
        Edge.none("sent(2) of two", World.RICH, x -> x.sent(2), 6);
        Edge.none("sent(7)", World.RICH, x -> x.sent(7), 6);
        Edge.none("sent(MAX)", World.RICH, x -> x.sent(MAX), 6);
        LampYear x = full();
        x.send(0, 1, 7, 0);
        Due.is(x, "the first of seven", x.sent(0), 13);
        Due.is(x, "the last of seven", x.sent(6), 19);
        Due.none(x, "an 8th", x.sent(7), 6);
        x.send(0, 1, 0, 0);
        x.send(0, 2, 1, 0);
        x.tray(2, 0, 0);
        x.send(0, 2, 1, 0);
        x.write(1, 0, 99);
        x.send(0, 1, 1, 0);
        Due.is(x, "refused ones don't count", x.sent(6), 19);
        x.write(1, 0, 5);
        x.send(0, 1, 1, 0);
        Due.is(x, "the latest", x.sent(0), 5);
        Due.none(x, "it was one alone", x.sent(1), 6);
    }

    private static void counts() {
        Due.says("COUNTS: of so many (1 to 60) so many (n, 1 and more) were drawn, of these so many (k, 0 and more) READ.");
        Due.says("LOW (what 0), HIGH (1) (1: also more drawn than there are, more who READ than drawn).");
        Edge.ints("count: all", World.RICH, 1, 60, (x, v) -> x.count(v, 1, 1, 0));
        Edge.ints("count: all, 5 drawn", World.RICH, 5, 60, (x, v) -> x.count(v, 5, 1, 1));
        Edge.ints("count: drawn of 60", World.RICH, 1, 60, (x, v) -> x.count(60, v, 1, 0));
        Edge.ints("count: drawn of 5", World.RICH, 1, 5, (x, v) -> x.count(5, v, 0, 1));
        Edge.ints("count: drawn of 1", World.RICH, 1, 1, (x, v) -> x.count(1, v, 0, 1));
        Edge.ints("count: READ of 60", World.RICH, 0, 60, (x, v) -> x.count(60, 60, v, 0));
        Edge.ints("count: READ of 5", World.RICH, 0, 5, (x, v) -> x.count(60, 5, v, 1));
        Edge.ints("count: what", World.RICH, 0, 1, (x, v) -> x.count(60, 5, 1, v));
        Edge.none("count: none of none", World.RICH, x -> x.count(0, 0, 0, 0), 1);
        Edge.none("count: 61 of 61", World.RICH, x -> x.count(61, 61, 61, 1), 1);
    }

    private static void counted(int all, int drawn, int found, int low, int high) {
        LampYear x = new LampYear();
        String what = found + " of " + drawn + " of " + all;
        Due.is(x, "LOW of " + what, x.count(all, drawn, found, 0), low);
        Due.is(x, "HIGH of " + what, x.count(all, drawn, found, 1), high);
    }

    private static void lowAndHigh() {
        Due.says("LOW: the least number of those who READ among all with which drawing k or more of them has a chance above 1 in 20; "
                + "HIGH: the greatest with which drawing k or fewer has one (all drawings alike).");
        // one drawn: the chance is r of all; just 1 in 20 is not above
        counted(20, 1, 1, 2, 20);
        counted(20, 1, 0, 0, 18);
        counted(19, 1, 1, 1, 19);
        counted(19, 1, 0, 0, 18);
        counted(40, 1, 1, 3, 40);
        counted(40, 1, 0, 0, 37);
        counted(60, 1, 1, 4, 60);
        counted(60, 1, 0, 0, 56);
        // three of six: 1 in 20 ways to draw three of three
        counted(6, 3, 3, 4, 6);
        counted(6, 3, 0, 0, 2);
        counted(1, 1, 0, 0, 0);
        counted(1, 1, 1, 1, 1);
        counted(2, 1, 1, 1, 2);
        counted(2, 2, 1, 1, 1);
        for (int all = 1; all <= 60; all++) {
            LampYear x = new LampYear();
            for (int found : new int[] {0, 1, all / 2, all}) {
                Due.is(x, "all are drawn: LOW", x.count(all, all, found, 0), found);
                Due.is(x, "all are drawn: HIGH", x.count(all, all, found, 1), found);
            }
            for (int drawn : new int[] {1, (all + 1) / 2, all}) {
                Due.is(x, "none READS: LOW", x.count(all, drawn, 0, 0), 0);
                Due.is(x, "all who are drawn READ: HIGH", x.count(all, drawn, drawn, 1), all);
                // who READ and who don't may change places
                for (int found = 0; found <= drawn; found += 7) {
                    Due.is(x, "LOW and HIGH", x.count(all, drawn, found, 0), all - x.count(all, drawn, drawn - found, 1));
                }
            }
        }
    }

    private static void near() {
        Due.says("NEAR: of a LAMP that is not LIT in a WEEK the LIT one that is reached first from its PLACE (by ARRIVAL) and is fewer "
                + "LEARNERS' LAMP than ROOM there (in its SHIRE, that WEEK); of several the lesser.");
        LampYear x = row(3);
        for (int p : new int[] {0, 2, 1, 0, 1}) {
            x.lamp(p);
        }
        for (int t = 0; t < 4; t++) {
            x.teacher(1, 0);
        }
        Due.none(x, "none is LIT", x.near(0, 0), 6);
        x.note(0, 0, 1, 0, 59, 0);
        Due.is(x, "the only one", x.near(0, 0), 1);
        Due.is(x, "ARRIVAL in WEEK 59", x.near(0, 53), 1);
        Due.none(x, "ARRIVAL behind WEEK 59", x.near(0, 54), 6);
        x.note(0, 1, 4, 10, 59, 0);
        Due.is(x, "LIT a WEEK later", x.near(0, 9), 1);
        Due.is(x, "sooner, though of a greater number", x.near(0, 10), 4);
        x.note(0, 2, 2, 20, 59, 0);
        Due.is(x, "of several the lesser", x.near(0, 20), 2);
        x.note(0, 3, 3, 59, 59, 0);
        Due.is(x, "in its own PLACE in WEEK 59", x.near(0, 59), 3);
        Due.is(x, "from the other side", x.near(3, 58 - 2), 2);
    }

    private static void nearRoom() {
        for (int room : new int[] {1, 2, 5}) {
            LampYear x = new LampYear();
            x.place(0);
            x.place(1);
            x.way(0, 1, 1, NONE, NONE);
            x.lamp(0);
            x.lamp(1);
            x.teacher(1, 0);
            x.note(0, 0, 1, 0, 59, 0);
            for (int i = 0; i < room; i++) {
                x.learner(0, 9, 0);
                x.note(1, i, 1, i, 59, 0);
            }
            Due.orders(x, "a:room " + room + ";", 0, 2);
            Due.orders(x, "a:room " + (room + 1) + ";", 40, 2);
            Due.orders(x, "a:room 1;", 0, 1);
            // in WEEK w it is w + 1 LEARNERS' LAMP
            if (room > 1) {
                Due.is(x, "one fewer than ROOM " + room, x.near(0, room - 2), 1);
            }
            Due.none(x, "as many as ROOM " + room, x.near(0, room - 1), 6);
            Due.none(x, "ROOM is that of the WEEK", x.near(0, 39), 6);
            Due.is(x, "ROOM is that of the WEEK", x.near(0, 40), 1);
        }
        // without a RULE it is 40
        LampYear y = World.school();
        y.lamp(0);
        for (int i = 0; i < 40; i++) {
            y.learner(0, 9, 0);
            y.note(1, i, 0, i, 59, 0);
        }
        Due.is(y, "39 of 40", y.near(1, 38), 0);
        Due.none(y, "40 of 40", y.near(1, 39), 6);
    }

    private static void nearThatCant() {
        Due.says("NEAR (1; 6: none; 7: it is LIT).");
        Edge.none("near: it is LIT", World.RICH, x -> x.near(0, 0), 7);
        Edge.none("near: it is LIT, WEEK 45", World.RICH, x -> x.near(3, 45), 7);
        Edge.none("near: none", World.RICH, x -> x.near(1, 58), 6);
        for (int v : new int[] {-1, World.LAMPS, 12, MIN, MAX}) {
            Edge.none("near: LAMP " + v, World.RICH, x -> x.near(v, 0), 1);
            Edge.none("near: LAMP " + v + " and no WEEK", World.RICH, x -> x.near(v, 60), 1);
        }
        Edge.none("near: 1 ahead of 7", World.RICH, x -> x.near(0, 60), 1);
        Edge.none("near: 1 ahead of 7", World.RICH, x -> x.near(0, -1), 1);
        // a LAMP that is LIT and full, with none that could be NEAR
        World.Make alone = () -> {
            LampYear x = World.school(9);
            Due.orders(x, "a:room 1;", 0, 1);
            return x;
        };
        Edge.none("near: LIT, and none other", alone, x -> x.near(0, 0), 7);
    }
}

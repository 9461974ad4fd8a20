/** Objects to begin with: one that has something of everything, and the same with one thing full. */
final class World {
    private static final int NONE = LampYear.NONE;

    interface Make {
        LampYear make();
    }

    static final Make NEW = LampYear::new;
    static final Make RICH = World::rich;
    /** RICH, but with nothing on the tape. */
    static final Make NO_TAPE = World::withoutTape;
    static final Make FULL_PLACES = World::fullPlaces;
    static final Make FULL_WAYS = World::fullWays;
    static final Make FULL_LEARNERS = World::fullLearners;
    static final Make FULL_TEACHERS = World::fullTeachers;
    static final Make FULL_LAMPS = World::fullLamps;
    static final Make FULL_NOTES = World::fullNotes;
    static final Make FULL_TEXTS = World::fullTexts;
    static final Make FULL_TAPE = World::fullTape;
    static final Make FULL_PROOFS = World::fullProofs;

    // how many of each the rich one has
    static final int PLACES = 5;
    static final int WAYS = 4;
    static final int LAMPS = 4;
    static final int TEACHERS = 4;
    static final int LEARNERS = 7;
    static final int NOTES = 18;
    static final int TEXTS = 2;
    static final int PROOFS = 6;
    static final int TAPE = 40;
    /** The WEEK by which its last NOTE is KNOWN. */
    static final int LATEST = 31;

    private World() {
    }

    private static LampYear rich() {
        LampYear x = withoutTape();
        Due.feed(x, "j strikes a:room 4;k:flag 10;           ");
        return x;
    }

    private static LampYear withoutTape() {
        LampYear x = new LampYear();
        land(x);
        notes(x);
        Due.orders(x, "a:may age<90 or tongue=1;b:hours 4+many*2-week/20+done/3+rain+shire unless age>95;"
                + "c:room 3;d:pass 1;e:flag 60;", 0, 15);
        Due.orders(x, "f strikes c:room 2;g strikes d:pass 2;h:hours 9 unless tongue=0;", 8, 5);
        Due.orders(x, "i:room 41;", 0, 15);
        x.lesson(1, 12, 1, 2 | 1 << 16);
        x.lesson(3, 5, 6, 8);
        x.lesson(14, 60, 1, 1 << 14);
        x.fade(3);
        prove(x, 0, 2, "lamp", "lump");
        prove(x, 0, 20, "abc", "abc");
        prove(x, 1, 5, "zebra", "zbra");
        prove(x, 2, 9, "a", "b");
        prove(x, 5, 30, "reading", "redding");
        prove(x, 0, 25, "ab", "ba");
        fill(x, 0, 0, 1, 0, 2, -7);
        fill(x, 1, 1, 2, 0, 1);
        fill(x, 2, 3, Long.MAX_VALUE, Long.MIN_VALUE, -1, 7, 0, 99);
        x.send(0, 1, 2, 3);
        return x;
    }

    private static void land(LampYear x) {
        for (int shire : new int[] {0, 1, 2, 3, 0}) {
            x.place(shire);
        }
        x.way(0, 1, 2, NONE, NONE);
        x.way(1, 2, 3, 5, 9);
        x.way(0, 3, 1, 0, 59);
        x.way(3, 4, 9, 10, 10);
        for (int place : new int[] {0, 1, 2, 0}) {
            x.lamp(place);
        }
        x.teacher(1, 0);
        x.teacher(2, 1);
        x.teacher(31, 2);
        x.teacher(5, 4);
        x.learner(0, 10, 0);
        x.learner(0, 39, 1);
        x.learner(1, 40, 2);
        x.learner(2, 59, 3);
        x.learner(3, 60, 4);
        x.learner(0, 99, 0);
        x.learner(1, 25, 1);
    }

    private static void notes(LampYear x) {
        x.note(0, 0, 0, 0, 59, 0);
        x.note(0, 1, 1, 0, 40, 0);
        x.note(0, 2, 2, 5, 59, 0);
        x.note(0, 3, 0, 0, 59, 1);
        x.note(1, 0, 0, 0, 59, 1);
        x.note(1, 1, 0, 0, 30, 1);
        x.note(1, 2, 1, 0, 59, 1);
        x.note(1, 3, 2, 0, 59, 1);
        x.note(1, 4, 0, 2, 50, 1);
        x.note(1, 5, 0, 0, 59, 1);
        x.note(1, 6, 1, 3, 20, 1);
        x.note(2, 0, NONE, 10, 18, 2);
        x.note(3, 0, NONE, 12, 13, 3);
        x.note(3, 1, NONE, 6, 9, 3);
        x.note(1, 1, 1, 20, 25, 4);
        x.note(2, 3, NONE, 30, 50, 5);
        x.note(0, 0, 3, 40, 45, 10);
        x.note(2, 6, NONE, 4, 4, LATEST);
        x.asof(LATEST - 1);
    }

    static int prove(LampYear x, int learner, int week, String told, String written) {
        return x.proof(learner, week, Due.word(told), Due.word(written));
    }

    static void fill(LampYear x, int tray, int sort, long... v) {
        x.tray(tray, sort, v.length);
        for (int i = 0; i < v.length; i++) {
            x.write(tray, i, v[i]);
        }
    }

    /** So many PLACES in SHIRE 0 and nothing else. */
    static LampYear places(int many) {
        LampYear x = new LampYear();
        for (int i = 0; i < many; i++) {
            x.place(0);
        }
        return x;
    }

    /** A LAMP in a PLACE of SHIRE 0, LIT all the year by a TEACHER with TONGUE 0; LEARNERS of TONGUE 0 come there. */
    static LampYear school(int... ages) {
        LampYear x = places(1);
        x.lamp(0);
        x.teacher(1, 0);
        x.note(0, 0, 0, 0, 59, 0);
        for (int i = 0; i < ages.length; i++) {
            x.learner(0, ages[i], 0);
            x.note(1, i, 0, 0, 59, 0);
        }
        return x;
    }

    /** Which letters the SLIPS are of: each of the letters a to o has a LESSON of its own here, so it can be seen. */
    static void slipsAreOf(String told, String written, String letters) {
        LampYear x = places(1);
        x.learner(0, 9, 0);
        for (int k = 0; k < 15; k++) {
            x.lesson(k, 6, 0, 1 << k);
        }
        prove(x, 0, 0, told, written);
        for (int k = 0; k < 15; k++) {
            char letter = (char) ('a' + k);
            Due.is(x, told + " to " + written + ": SLIPS of " + letter, x.owed(0, k),
                    letters.chars().filter(c -> c == letter).count());
        }
        Due.is(x, told + " to " + written + ": SLIPS", x.slips(0, 0), letters.length());
    }

    // ---- one thing full

    private static LampYear fullPlaces() {
        LampYear x = rich();
        for (int i = PLACES; i < 16; i++) {
            x.place(i % 4);
        }
        return x;
    }

    private static LampYear fullWays() {
        LampYear x = fullPlaces();
        for (int i = WAYS; i < 30; i++) {
            // PLACES 5 to 15 in a row, then each of them with PLACE 0, then some with PLACE 1
            int k = i - WAYS;
            x.way(k < 10 ? 5 + k : k < 21 ? 0 : 1, k < 10 ? 6 + k : k < 21 ? k - 5 : k - 16, 1 + k % 9, k, 30);
        }
        return x;
    }

    private static LampYear fullLearners() {
        LampYear x = rich();
        for (int i = LEARNERS; i < 40; i++) {
            x.learner(i % PLACES, 5 + i, i % 5);
        }
        return x;
    }

    private static LampYear fullTeachers() {
        LampYear x = rich();
        for (int i = TEACHERS; i < 20; i++) {
            x.teacher(1 + i, i % PLACES);
        }
        return x;
    }

    private static LampYear fullLamps() {
        LampYear x = rich();
        for (int i = LAMPS; i < 12; i++) {
            x.lamp(i % PLACES);
        }
        return x;
    }

    private static LampYear fullNotes() {
        LampYear x = rich();
        for (int i = NOTES; i < 160; i++) {
            x.note(1, i % LEARNERS, i % LAMPS, i % 60, 59, LATEST);
        }
        return x;
    }

    private static LampYear fullTexts() {
        LampYear x = withoutTape();
        for (int i = TEXTS; i < 5; i++) {
            Due.orders(x, "a strikes b:pass " + i + ";", i, 3);
        }
        Due.feed(x, "j strikes a:room 4;k:flag 10;           ");
        return x;
    }

    private static LampYear fullTape() {
        LampYear x = rich();
        for (int i = TAPE; i < 600; i += 20) {
            x.feed(0x20202020, 0x20202020, 0x20202020, 0x20202020, 0x20202020);
        }
        return x;
    }

    private static LampYear fullProofs() {
        LampYear x = rich();
        for (int i = PROOFS; i < 60; i++) {
            prove(x, i % LEARNERS, i % 60, "lamp", i % 2 == 0 ? "lamp" : "lump");
        }
        return x;
    }
}

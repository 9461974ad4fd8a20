/** The edges of promises 23 to 28, sentence by sentence: lessons, fading, what is known, what is foretold. */
public final class EdgeLessonsTest {
    private static final int NONE = LampYear.NONE;
    private static final int ALL = 32_767;

    private EdgeLessonsTest() {
    }

    public static void main(String[] args) {
        lessons();
        atFirst();
        doneWith();
        worth();
        whatIsLeft();
        doNothing();
        byEachFurther();
        tillTaughtAgain();
        taughtWithNothing();
        knows();
        hours();
        gaps();
        foretold();
        foretoldThatCant();
        Due.end();
    }

    /** A LEARNER of an AGE who is TAUGHT so many HOURS from a WEEK to a WEEK. */
    private static LampYear taught(int age, int hours, int from, int to) {
        LampYear x = World.school();
        x.learner(0, age, 0);
        x.note(1, 0, 0, from, to, 0);
        Due.orders(x, "a:hours " + hours + ";", 0, 1);
        return x;
    }

    private static void lessons() {
        Due.says("LESSONS 0 to 14: each NEEDS hours (1 to 60; 6 at first), leans on some lesser ones (a set; none at first), "
                + "and teaches letters (a set: 1 for a, 2 for b .., below 67,108,864; LESSON k at first the letters k and k and 15, "
                + "if that is below 26).");
        Due.says("What a LESSON NEEDS, leans on (of lesser ones), teaches (1).");
        Edge.yeses("lesson: LESSON", World.RICH, 0, 14, (x, v) -> x.lesson(v, 6, 0, 0));
        for (int lesson = 0; lesson < 15; lesson++) {
            int k = lesson;
            Edge.yeses("lesson " + k + ": NEEDS", World.RICH, 1, 60, (x, v) -> x.lesson(k, v, 0, 0));
            Edge.yeses("lesson " + k + ": leans", World.RICH, 0, (1 << k) - 1, (x, v) -> x.lesson(k, 6, v, 0));
            Edge.yeses("lesson " + k + ": letters", World.RICH, 0, 67_108_863, (x, v) -> x.lesson(k, 6, 0, v));
        }
        Edge.no("lesson 14 leans on itself alone", World.RICH, x -> x.lesson(14, 6, 1 << 14, 0), 1);
        Edge.no("lesson 0 leans on itself", World.RICH, x -> x.lesson(0, 6, 1, 0), 1);
        Edge.no("lesson 5 leans on a greater one", World.RICH, x -> x.lesson(5, 6, 1 << 6, 0), 1);
        Edge.no("letters: one behind z", World.RICH, x -> x.lesson(5, 6, 0, 1 << 26), 1);
        Edge.no("all wrong", World.RICH, x -> x.lesson(15, 61, -1, -1), 1);
    }

    private static void atFirst() {
        Due.says("LESSONS 0 to 14: each NEEDS hours (1 to 60; 6 at first), leans on some lesser ones (a set; none at first), "
                + "and teaches letters (a set: 1 for a, 2 for b .., below 67,108,864; LESSON k at first the letters k and k and 15, "
                + "if that is below 26).");
        LampYear x = taught(30, 6, 0, 59);
        for (int week = 0; week < 15; week++) {
            Due.is(x, "6 hours a LESSON: behind WEEK " + week, x.knows(0, week), (2 << week) - 1);
        }
        LampYear y = taught(30, 5, 0, 59);
        Due.is(y, "5 hours are too few", y.knows(0, 0), 0);
        // a letter told and another written: whose LESSON it is
        LampYear z = World.places(1);
        z.learner(0, 9, 0);
        for (int letter = 0; letter < 26; letter++) {
            int proof = z.proof(0, 0, letter + 1, letter == 0 ? 2 : 1);
            int lesson = letter < 15 ? letter : letter - 15;
            Due.is(z, "letter " + letter, z.owed(proof, lesson), 1);
            Due.is(z, "letter " + letter + ": to all", z.slips(proof, 1), 1);
            Due.is(z, "letter " + letter + ": OWN", z.slips(proof, 2), 0);
        }
        // all letters of a set, and none
        z.lesson(0, 6, 0, 67_108_863);
        for (int proof = 0; proof < 26; proof++) {
            Due.is(z, "all are LESSON 0's", z.owed(proof, 0), 1);
        }
        for (int k = 0; k < 15; k++) {
            z.lesson(k, 6, 0, 0);
        }
        for (int proof = 0; proof < 26; proof++) {
            Due.is(z, "nobody's", z.slips(proof, 1), 0);
        }
        z.lesson(14, 6, 0, 1 << 25);
        Due.is(z, "z alone", z.owed(25, 14), 1);
        Due.is(z, "not y", z.owed(24, 14), 0);
    }

    private static void doneWith() {
        Due.says("Of a LEARNER each LESSON has hours (0 at first); it is DONE with as many as it NEEDS.");
        for (int needs : new int[] {1, 2, 59, 60}) {
            LampYear x = taught(30, needs, 0, 0);
            x.lesson(0, needs, 0, 0);
            Due.is(x, "just as many as " + needs, x.knows(0, 0) & 1, 1);
            Due.is(x, "its hours", x.hours(0, 0, 0), needs);
            Due.is(x, "none are left", x.hours(0, 1, 0), 0);
            LampYear y = taught(30, needs - 1, 0, 0);
            y.lesson(0, needs, 0, 0);
            Due.is(y, "one fewer than " + needs, y.knows(0, 0), 0);
            Due.is(y, "its hours", y.hours(0, 0, 0), needs - 1);
        }
        LampYear z = World.places(1);
        z.learner(0, 9, 0);
        for (int k = 0; k < 15; k++) {
            Due.is(z, "0 at first: LESSON " + k, z.hours(0, k, 0), 0);
        }
    }

    private static void worth() {
        Due.says("By WEEKS from 0 on: if the LEARNER is TAUGHT in a WEEK, its HOURS are worth all below AGE 40, "
                + "three quarters (rounded down) below 60, else half (rounded down); they go to the least LESSON that is not DONE "
                + "and leans on none that is not, as many as that still NEEDS; what is left to the next such one (as it is then), "
                + "and so on.");
        int[][] want = {{0, 0, 0, 0}, {1, 1, 0, 0}, {2, 2, 1, 1}, {3, 3, 2, 1}, {4, 4, 3, 2}, {5, 5, 3, 2}, {6, 6, 4, 3}, {7, 7, 5, 3},
            {58, 58, 43, 29}, {59, 59, 44, 29}, {60, 60, 45, 30}};
        int[][] ages = {{5, 1}, {39, 1}, {40, 2}, {59, 2}, {60, 3}, {99, 3}};
        for (int[] age : ages) {
            for (int[] w : want) {
                LampYear x = taught(age[0], w[0], 0, 0);
                x.lesson(0, 60, 0, 0);
                Due.is(x, w[0] + " hours at AGE " + age[0], x.hours(0, 0, 0), w[age[1]]);
            }
        }
    }

    private static void whatIsLeft() {
        LampYear x = taught(30, 60, 0, 59);
        for (int k = 0; k < 15; k++) {
            x.lesson(k, 4, (1 << k) - 1, 0);
        }
        Due.is(x, "60 hours are 15 LESSONS of 4, each leaning on all lesser ones", x.knows(0, 0), ALL);
        x.lesson(14, 5, (1 << 14) - 1, 0);
        Due.is(x, "one hour is missing", x.knows(0, 0), ALL >> 1);
        Due.is(x, "the last has the others", x.hours(0, 14, 0), 4);
        Due.is(x, "it is DONE the next WEEK", x.knows(0, 1), ALL);
        Due.is(x, "what no LESSON NEEDS is lost", x.hours(0, 14, 59), 5);
        LampYear y = taught(30, 7, 0, 59);
        Due.is(y, "as many as it still NEEDS", y.hours(0, 0, 0), 6);
        Due.is(y, "what is left to the next", y.hours(0, 1, 0), 1);
        Due.is(y, "no further", y.hours(0, 2, 0), 0);
        Due.is(y, "5 it still NEEDS, 2 are left", y.hours(0, 2, 1), 2);
        LampYear z = taught(30, 1, 0, 59);
        for (int k = 0; k < 15; k++) {
            z.lesson(k, 1, 0, 0);
        }
        Due.is(z, "an hour a WEEK", z.knows(0, 13), ALL >> 1);
        Due.is(z, "WEEK 14", z.knows(0, 14), ALL);
        LampYear u = taught(30, 60, 0, 59);
        for (int k = 0; k < 15; k++) {
            u.lesson(k, 60, 0, 0);
        }
        Due.is(u, "a LESSON a WEEK", u.knows(0, 13), ALL >> 1);
        Due.is(u, "WEEK 14", u.knows(0, 14), ALL);
    }

    /** All 15 LESSONS are DONE behind WEEK 0; then no LAMP any more. */
    private static LampYear onlyFirstWeek() {
        LampYear x = taught(30, 60, 0, 0);
        for (int k = 0; k < 15; k++) {
            x.lesson(k, 4, 0, 0);
        }
        return x;
    }

    private static void doNothing() {
        Due.says("If not, it is a GAP: as many GAPS one behind the other as FADE (1 to 20; 4 at first) do nothing; by each further "
                + "one (till it is TAUGHT again) the greatest LESSON that is DONE and on which no DONE one leans loses all its hours.");
        LampYear x = onlyFirstWeek();
        Due.is(x, "4 at first: 4 GAPS", x.knows(0, 4), ALL);
        Due.is(x, "4 at first: 5 GAPS", x.knows(0, 5), ALL >> 1);
        for (int fade : new int[] {1, 2, 3, 5, 19, 20}) {
            Due.yes(x, "fade", x.fade(fade));
            Due.is(x, "FADE " + fade + ": as many GAPS", x.knows(0, fade), ALL);
            Due.is(x, "FADE " + fade + ": one more", x.knows(0, fade + 1), ALL >> 1);
        }

        Due.says("FADE (1).");
        Edge.yeses("fade", World.RICH, 1, 20, (y, v) -> y.fade(v));
    }

    private static void byEachFurther() {
        LampYear x = onlyFirstWeek();
        x.fade(1);
        for (int further = 1; further <= 15; further++) {
            Due.is(x, further + " further", x.knows(0, 1 + further), ALL >> further);
            Due.is(x, "all its hours", x.hours(0, 15 - further, 1 + further), 0);
            Due.is(x, "the next has its own", further < 15 ? x.hours(0, 14 - further, 1 + further) : 4, 4);
        }
        Due.is(x, "none is left to lose", x.knows(0, 17), 0);
        Due.is(x, "nor by WEEK 59", x.knows(0, 59), 0);
        // hours of a LESSON that is not DONE are kept
        LampYear y = taught(30, 8, 0, 0);
        y.fade(1);
        Due.is(y, "LESSON 0", y.knows(0, 1), 1);
        Due.is(y, "LESSON 0 is lost", y.knows(0, 2), 0);
        Due.is(y, "a part of LESSON 1 is not", y.hours(0, 1, 59), 2);
        // a greater one that leans is lost ahead of those on which it leans
        LampYear z = onlyFirstWeek();
        z.fade(1);
        z.lesson(14, 4, 1, 0);
        z.lesson(1, 4, 1, 0);
        Due.is(z, "LESSON 14", z.knows(0, 2), ALL >> 1);
        Due.is(z, "LESSON 0 at last", z.knows(0, 15), 1);
        Due.is(z, "LESSON 0", z.knows(0, 16), 0);
    }

    private static void tillTaughtAgain() {
        LampYear x = onlyFirstWeek();
        x.note(1, 0, 0, 5, 5, 0);
        x.note(1, 0, 0, 11, 11, 0);
        // four GAPS, TAUGHT in 5, five GAPS (the fifth loses one), TAUGHT in 11
        int[][] want = {{4, ALL}, {5, ALL}, {9, ALL}, {10, ALL >> 1}, {11, ALL}, {15, ALL}, {16, ALL >> 1}, {17, ALL >> 2}};
        for (int[] w : want) {
            Due.is(x, "behind WEEK " + w[0], x.knows(0, w[0]), w[1]);
        }
        Due.is(x, "GAPS behind WEEK 5", x.gap(0, 5), 0);
        Due.is(x, "GAPS behind WEEK 10", x.gap(0, 10), 5);
        Due.is(x, "GAPS behind WEEK 11", x.gap(0, 11), 0);
    }

    private static void taughtWithNothing() {
        LampYear x = taught(30, 0, 0, 59);
        Due.is(x, "TAUGHT with 0 HOURS is no GAP", x.gap(0, 59), 0);
        Due.is(x, "it is TAUGHT", x.taught(0, 59, 1), 1);
        LampYear y = taught(99, 1, 0, 59);
        Due.is(y, "nor with HOURS that are worth 0", y.gap(0, 59), 0);
        Due.is(y, "no hours", y.hours(0, 0, 59), 0);
        // all that is not TAUGHT is a GAP: no LAMP, one that is not LIT, one where it may not, one without ROOM
        LampYear z = World.school(30, 30);
        Due.orders(z, "a:may week>0 or 1=2;b:room 1;", 0, 1);
        z.note(3, 0, NONE, 2, 2, 0);
        z.note(2, 0, NONE, 3, 3, 0);
        int[] first = {1, 0, 1, 2, 0};
        int[] second = {1, 2, 3, 0, 1};
        for (int w = 0; w < 5; w++) {
            Due.is(z, "GAPS of LEARNER 0 behind WEEK " + w, z.gap(0, w), first[w]);
            Due.is(z, "GAPS of LEARNER 1 behind WEEK " + w, z.gap(1, w), second[w]);
        }
    }

    private static void knows() {
        Due.says("KNOWS: the set of LESSONS that are DONE behind a WEEK (1 for LESSON 0, 2 for 1 ..).");
        LampYear x = World.school(30);
        Due.is(x, "behind WEEK 0", x.knows(0, 0), 1);
        Due.is(x, "behind WEEK 14", x.knows(0, 14), ALL);
        Due.is(x, "behind WEEK 59", x.knows(0, 59), ALL);
        x.learner(0, 9, 0);
        Due.is(x, "one who never came", x.knows(1, 59), 0);

        Due.says("What a LEARNER KNOWS behind a WEEK (1).");
        Edge.ints("knows: LEARNER", World.RICH, 0, World.LEARNERS - 1, (y, v) -> y.knows(v, 0));
        Edge.ints("knows: WEEK", World.RICH, 0, 59, (y, v) -> y.knows(0, v));
        Edge.ints("knows: of 40 LEARNERS", World.FULL_LEARNERS, 0, 39, (y, v) -> y.knows(v, 59));
        Edge.none("knows: nobody", World.NEW, y -> y.knows(0, 0), 1);
    }

    private static void hours() {
        Due.says("Hours of a LESSON that a LEARNER has behind a WEEK (1).");
        Edge.ints("hours: LEARNER", World.RICH, 0, World.LEARNERS - 1, (y, v) -> y.hours(v, 0, 0));
        Edge.ints("hours: LESSON", World.RICH, 0, 14, (y, v) -> y.hours(0, v, 0));
        Edge.ints("hours: WEEK", World.RICH, 0, 59, (y, v) -> y.hours(0, 0, v));
        Edge.ints("hours: of 40 LEARNERS", World.FULL_LEARNERS, 0, 39, (y, v) -> y.hours(v, 14, 59));
        LampYear x = World.school();
        for (int i = 0; i < 40; i++) {
            x.learner(0, 30, 0);
        }
        x.note(1, 39, 0, 59, 59, 0);
        Due.is(x, "of the last LEARNER in the last WEEK", x.hours(39, 0, 59), 6);
        Due.is(x, "the WEEK ahead", x.hours(39, 0, 58), 0);
        Due.is(x, "of another LEARNER", x.hours(38, 0, 59), 0);
    }

    private static void gaps() {
        Due.says("GAPS one behind the other that a LEARNER has behind a WEEK (1).");
        Edge.ints("gap: LEARNER", World.RICH, 0, World.LEARNERS - 1, (y, v) -> y.gap(v, 0));
        Edge.ints("gap: WEEK", World.RICH, 0, 59, (y, v) -> y.gap(0, v));
        LampYear x = taught(30, 6, 30, 30);
        Due.is(x, "WEEK 0", x.gap(0, 0), 1);
        Due.is(x, "WEEK 29", x.gap(0, 29), 30);
        Due.is(x, "WEEK 30", x.gap(0, 30), 0);
        Due.is(x, "WEEK 31", x.gap(0, 31), 1);
        Due.is(x, "WEEK 59", x.gap(0, 59), 29);
        x.learner(0, 9, 0);
        Due.is(x, "never TAUGHT: WEEK 59", x.gap(1, 59), 60);
        Due.is(World.school(9), "always TAUGHT: WEEK 59", World.school(9).gap(0, 59), 0);
    }

    private static void foretold() {
        Due.says("FORETOLD: what a LEARNER KNOWS so many WEEKS (0 to 60) behind a WEEK, if in each of these it were given so many "
                + "hours (0 to 60; as they are worth by AGE; with 0 it is a GAP).");
        LampYear x = taught(30, 6, 0, 4);
        Due.is(x, "0 WEEKS, 60 hours", x.foretold(0, 4, 0, 60), 31);
        Due.is(x, "0 WEEKS, 0 hours", x.foretold(0, 4, 0, 0), 31);
        Due.is(x, "1 WEEK of 5 hours", x.foretold(0, 4, 1, 5), 31);
        Due.is(x, "1 WEEK of 6 hours", x.foretold(0, 4, 1, 6), 63);
        Due.is(x, "1 WEEK of 60 hours: ten LESSONS", x.foretold(0, 4, 1, 60), ALL);
        Due.is(x, "1 WEEK of 59 hours", x.foretold(0, 4, 1, 59), ALL >> 1);
        Due.is(x, "60 WEEKS of 1 hour", x.foretold(0, 4, 60, 1), ALL);
        Due.is(x, "59 WEEKS of 1 hour", x.foretold(0, 4, 59, 1), ALL >> 1);
        Due.is(x, "4 GAPS", x.foretold(0, 4, 4, 0), 31);
        Due.is(x, "5 GAPS", x.foretold(0, 4, 5, 0), 15);
        Due.is(x, "9 GAPS", x.foretold(0, 4, 9, 0), 0);
        Due.is(x, "60 GAPS", x.foretold(0, 4, 60, 0), 0);
        Due.is(x, "3 GAPS were there: 1 more", x.foretold(0, 7, 1, 0), 31);
        Due.is(x, "3 GAPS were there: 2 more", x.foretold(0, 7, 2, 0), 15);
        Due.is(x, "given hours behind GAPS", x.foretold(0, 7, 1, 6), 63);
        Due.is(x, "behind WEEK 59", x.foretold(0, 59, 60, 60), ALL);
        Due.is(x, "behind WEEK 59, 0 WEEKS", x.foretold(0, 59, 0, 0), 0);
        Due.is(x, "behind WEEK 0", x.foretold(0, 0, 1, 6), 3);
        Due.is(x, "it changes nothing", x.knows(0, 4), 31);
        Due.is(x, "nor hours", x.hours(0, 5, 4), 0);
        Due.is(x, "nor GAPS", x.gap(0, 7), 3);
        int[][] want = {{39, 6, 1}, {39, 5, 0}, {40, 8, 1}, {40, 7, 0}, {59, 8, 1}, {59, 7, 0}, {60, 12, 1}, {60, 11, 0}, {99, 12, 1}, {99, 11, 0}};
        for (int[] w : want) {
            LampYear y = World.places(1);
            y.learner(0, w[0], 0);
            Due.is(y, w[1] + " hours at AGE " + w[0], y.foretold(0, 59, 1, w[1]), w[2]);
        }
        // hours above 0 are no GAP, though they are worth none
        LampYear z = taught(60, 12, 0, 0);
        Due.is(z, "60 WEEKS of 1 hour at AGE 60", z.foretold(0, 0, 60, 1), 1);
        Due.is(z, "60 WEEKS of 0 hours at AGE 60", z.foretold(0, 0, 60, 0), 0);
    }

    private static void foretoldThatCant() {
        Due.says("FORETOLD (1).");
        Edge.ints("foretold: LEARNER", World.RICH, 0, World.LEARNERS - 1, (y, v) -> y.foretold(v, 0, 1, 1));
        Edge.ints("foretold: WEEK", World.RICH, 0, 59, (y, v) -> y.foretold(0, v, 1, 1));
        Edge.ints("foretold: weeks", World.RICH, 0, 60, (y, v) -> y.foretold(0, 0, v, 1));
        Edge.ints("foretold: hours", World.RICH, 0, 60, (y, v) -> y.foretold(0, 0, 1, v));
        Edge.ints("foretold: weeks of GAPS", World.RICH, 0, 60, (y, v) -> y.foretold(0, 59, v, 0));
    }
}

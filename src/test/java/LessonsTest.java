/** Promises 23 to 28: lesson, fade, knows, hours, gap, foretold. */
public final class LessonsTest {
    private static final int NONE = LampYear.NONE;

    private LessonsTest() {
    }

    public static void main(String[] args) {
        lessonsThatCant();
        worthByAge();
        leaning();
        leftOver();
        gaps();
        fading();
        fadingLeansAndParts();
        taughtWithNothing();
        changesLater();
        asOfBackAndForth();
        knownJustNow();
        foretelling();
        wrongAsking();
        Due.end();
    }

    /** A LAMP that is LIT all the year, and a LEARNER who comes from a WEEK to a WEEK. */
    private static LampYear school(int age, int from, int to) {
        LampYear x = new LampYear();
        x.place(0);
        x.lamp(0);
        x.teacher(1, 0);
        x.note(0, 0, 0, 0, 59, 0);
        x.learner(0, age, 0);
        x.note(1, 0, 0, from, to, 0);
        return x;
    }

    private static void lessonsThatCant() {
        LampYear x = school(30, 0, 59);
        Due.no(x, "LESSON 15", x.lesson(15, 6, 0, 0), 1);
        Due.no(x, "LESSON -1", x.lesson(-1, 6, 0, 0), 1);
        Due.no(x, "LESSON 40", x.lesson(40, 6, 0, 0), 1);
        Due.no(x, "needs 0", x.lesson(1, 0, 0, 0), 1);
        Due.no(x, "needs 61", x.lesson(1, 61, 0, 0), 1);
        Due.no(x, "leans on itself", x.lesson(1, 6, 2, 0), 1);
        Due.no(x, "0 leans on itself", x.lesson(0, 6, 1, 0), 1);
        Due.no(x, "leans -1", x.lesson(3, 6, -1, 0), 1);
        Due.no(x, "letters 2^26", x.lesson(3, 6, 0, 1 << 26), 1);
        Due.no(x, "letters -1", x.lesson(3, 6, 0, -1), 1);
        Due.is(x, "nothing is changed", x.knows(0, 14), 32767);
        Due.is(x, "by 6 each WEEK", x.knows(0, 13), 16383);
        Due.yes(x, "all at their most", x.lesson(14, 60, (1 << 14) - 1, (1 << 26) - 1));
        Due.yes(x, "all at their least", x.lesson(0, 1, 0, 0));
    }

    private static void worthByAge() {
        int[][] want = {{5, 60, 1023}, {39, 30, 31}, {40, 24, 7}, {59, 31, 7}, {60, 24, 3}, {99, 37, 7}};
        for (int[] w : want) {
            LampYear x = school(w[0], 0, 59);
            Due.orders(x, "a:hours " + w[1] + ";", 0, 15);
            Due.is(x, "AGE " + w[0], x.knows(0, 0), w[2]);
        }
        LampYear x = school(59, 0, 59);
        Due.orders(x, "a:hours 31;", 0, 15);
        Due.is(x, "three quarters of 31", x.hours(0, 3, 0), 5);
        x = school(60, 0, 59);
        Due.orders(x, "a:hours 11;", 0, 15);
        Due.is(x, "half of 11", x.hours(0, 0, 0), 5);
    }

    private static void leaning() {
        LampYear x = school(30, 0, 59);
        x.lesson(0, 12, 0, 0);
        x.lesson(1, 6, 1, 0);
        x.lesson(2, 6, 0, 0);
        x.lesson(3, 6, 2 | 4, 0);
        int[] want = {0, 1, 3, 7, 15, 31};
        for (int w = 0; w < want.length; w++) {
            Due.is(x, "behind WEEK " + w, x.knows(0, w), want[w]);
        }
        Due.is(x, "hours of LESSON 0", x.hours(0, 0, 0), 6);
        Due.is(x, "hours of LESSON 0", x.hours(0, 0, 5), 12);
        Due.is(x, "hours of LESSON 5", x.hours(0, 5, 5), 0);
    }

    private static void leftOver() {
        LampYear x = school(30, 0, 59);
        Due.orders(x, "a:hours 7;", 0, 15);
        Due.is(x, "one hour is left", x.hours(0, 1, 0), 1);
        x = school(30, 0, 59);
        Due.orders(x, "a:hours 10;", 0, 15);
        x.lesson(1, 1, 1, 0);
        x.lesson(2, 1, 2, 0);
        Due.is(x, "what is left opens the next ones", x.knows(0, 0), 7);
        Due.is(x, "and the next", x.hours(0, 3, 0), 2);
        Due.is(x, "no more than it NEEDS", x.hours(0, 0, 0), 6);
        Due.is(x, "all", x.knows(0, 7), 32767);
        Due.is(x, "what none NEEDS is lost", x.hours(0, 14, 59), 6);
        // hours that LESSON 4 has already count, when a lesser one is lost and learnt again
        x = school(30, 0, 59);
        Due.orders(x, "a:hours 10;", 0, 15);
        x.note(2, 0, NONE, 2, 6, 0);
        Due.is(x, "behind WEEK 1", x.hours(0, 3, 1), 2);
        Due.is(x, "LESSON 2 is lost", x.knows(0, 6), 3);
        Due.is(x, "LESSON 3 keeps its hours", x.hours(0, 3, 6), 2);
        Due.is(x, "6 to LESSON 2, 4 to 3", x.knows(0, 7), 15);
    }

    private static void gaps() {
        LampYear x = school(30, 3, 4);
        int[] want = {1, 2, 3, 0, 0, 1, 2};
        for (int w = 0; w < want.length; w++) {
            Due.is(x, "GAPS behind WEEK " + w, x.gap(0, w), want[w]);
        }
        Due.is(x, "GAPS behind WEEK 59", x.gap(0, 59), 55);
        x.learner(0, 30, 0);
        Due.is(x, "of one who never came", x.gap(1, 59), 60);
        // a LAMP that is not LIT, no leave and no seat are GAPS, too
        x = school(30, 0, 59);
        x.note(3, 0, NONE, 2, 2, 0);
        Due.is(x, "not LIT", x.gap(0, 2), 1);
        Due.orders(x, "a:may week<8;", 0, 15);
        Due.is(x, "may not", x.gap(0, 9), 2);
        x.learner(0, 30, 0);
        x.note(1, 1, 0, 0, 59, 0);
        Due.orders(x, "b:room 1;", 5, 15);
        Due.is(x, "no seat", x.gap(1, 7), 3);
        Due.is(x, "a seat", x.gap(0, 7), 0);
    }

    private static void fading() {
        LampYear x = school(30, 0, 3);
        int[] want = {1, 3, 7, 15, 15, 15, 15, 15, 7, 3, 1, 0, 0};
        for (int w = 0; w < want.length; w++) {
            Due.is(x, "behind WEEK " + w, x.knows(0, w), want[w]);
        }
        Due.is(x, "all its hours", x.hours(0, 3, 8), 0);
        Due.yes(x, "fade(1)", x.fade(1));
        Due.is(x, "the first does nothing", x.knows(0, 4), 15);
        Due.is(x, "the second does", x.knows(0, 5), 7);
        Due.yes(x, "fade(20)", x.fade(20));
        Due.is(x, "20 do nothing", x.knows(0, 23), 15);
        Due.is(x, "the 21st does", x.knows(0, 24), 7);
        Due.no(x, "fade(0)", x.fade(0), 1);
        Due.no(x, "fade(21)", x.fade(21), 1);
        Due.no(x, "fade(-1)", x.fade(-1), 1);
        Due.is(x, "still 20", x.knows(0, 23), 15);
        x = school(30, 0, 14);
        Due.is(x, "all", x.knows(0, 18), 32767);
        Due.is(x, "the last LESSON first", x.knows(0, 19), 16383);
        // GAPS one behind the other: a WEEK between them begins anew
        x = school(30, 0, 3);
        x.note(1, 0, 0, 8, 8, 0);
        Due.is(x, "TAUGHT ahead of the fifth", x.knows(0, 12), 31);
        Due.is(x, "and the fifth behind that", x.knows(0, 13), 15);
    }

    private static void fadingLeansAndParts() {
        LampYear x = school(30, 0, 2);
        x.lesson(2, 7, 2, 0);
        x.fade(1);
        Due.is(x, "LESSON 2 in part", x.hours(0, 2, 2), 6);
        Due.is(x, "not DONE, so LESSON 1 goes first", x.knows(0, 4), 1);
        Due.is(x, "a part does not fade", x.hours(0, 2, 59), 6);
        Due.is(x, "all fade", x.knows(0, 5), 0);
    }

    private static void taughtWithNothing() {
        LampYear x = school(30, 0, 59);
        Due.orders(x, "a:hours 6;", 0, 15);
        Due.orders(x, "b strikes a:hours 0;", 3, 15);
        Due.is(x, "TAUGHT with 0 hours is no GAP", x.gap(0, 30), 0);
        Due.is(x, "and nothing fades", x.knows(0, 59), 7);
        x = school(70, 0, 59);
        Due.orders(x, "a:hours 12;", 0, 15);
        Due.orders(x, "b strikes a:hours 1;", 3, 15);
        Due.is(x, "half of 1", x.knows(0, 59), 7);
        Due.is(x, "no GAP", x.gap(0, 59), 0);
    }

    /** What was told of a later WEEK must not stand when something changes behind it. */
    private static void changesLater() {
        LampYear x = school(30, 0, 59);
        Due.is(x, "ahead", x.knows(0, 59), 32767);
        x.note(2, 0, NONE, 1, 59, 4);
        Due.is(x, "a NOTE", x.knows(0, 59), 0);
        Due.is(x, "a NOTE", x.knows(0, 1), 1);
        x.asof(3);
        Due.is(x, "not KNOWN by then", x.knows(0, 59), 32767);
        x.note(2, 0, NONE, 0, 59, 4);
        Due.is(x, "nor the next", x.knows(0, 59), 32767);
        x.asof(4);
        Due.is(x, "KNOWN", x.knows(0, 0), 0);
        x.asof(3);
        Due.is(x, "back", x.knows(0, 2), 7);
        x.asof(0);
        Due.is(x, "as of 0", x.knows(0, 2), 7);
        Due.orders(x, "a:hours 12;", 2, 1);
        Due.is(x, "ORDERS", x.knows(0, 2), 15);
        Due.is(x, "ahead of them", x.knows(0, 1), 3);
        Due.is(x, "WEEK 0", x.knows(0, 0), 1);
        x.lesson(0, 18, 0, 1);
        Due.is(x, "a LESSON", x.knows(0, 2), 3);
        Due.is(x, "a LESSON in WEEK 0", x.knows(0, 0), 0);
        x.place(0);
        Due.orders(x, "b:hours 20*rain;", 0, 1);
        Due.is(x, "no rain", x.knows(0, 0), 0);
        x.way(0, 1, 1, 0, 0);
        Due.is(x, "a WAY that is SHUT", x.knows(0, 0), 1);
        int before = x.knows(0, 9);
        x.learner(0, 9, 0);
        Due.is(x, "a LEARNER more: none of the others", x.knows(0, 9), before);
        Due.is(x, "and its own", x.gap(1, 9), 10);
    }

    /** AS OF goes forth and back over each of some NOTES, with the whole year told in between. */
    private static void asOfBackAndForth() {
        LampYear x = new LampYear();
        x.place(0);
        x.lamp(0);
        x.teacher(1, 0);
        x.learner(0, 30, 0);
        x.note(0, 0, 0, 0, 59, 1);
        x.note(1, 0, 0, 0, 59, 2);
        x.note(2, 0, NONE, 3, 59, 3);
        int[] want = {0, 0, 63, 7, 7};
        int[] order = {4, 0, 1, 2, 3, 2, 1, 2, 0, 4, 3, 4, 2, 4};
        for (int w : order) {
            x.asof(w);
            Due.is(x, "as of " + w, x.knows(0, 5), want[w]);
        }
    }

    private static void knownJustNow() {
        LampYear x = school(30, 0, 59);
        x.asof(8);
        Due.is(x, "ahead", x.knows(0, 3), 15);
        x.note(2, 0, NONE, 2, 2, 8);
        Due.is(x, "KNOWN by the WEEK of AS OF", x.knows(0, 3), 7);
        x.note(2, 0, NONE, 1, 1, 9);
        Due.is(x, "KNOWN a WEEK behind it", x.knows(0, 3), 7);
        x.asof(9);
        Due.is(x, "and then", x.knows(0, 3), 3);
    }

    private static void foretelling() {
        LampYear x = school(30, 0, 3);
        Due.is(x, "0 WEEKS", x.foretold(0, 3, 0, 60), 15);
        Due.is(x, "6 hours", x.foretold(0, 3, 2, 6), 63);
        Due.is(x, "60 WEEKS", x.foretold(0, 59, 60, 60), 32767);
        Due.is(x, "GAPS", x.foretold(0, 3, 4, 0), 15);
        Due.is(x, "GAPS", x.foretold(0, 3, 6, 0), 3);
        Due.is(x, "GAPS that were there count", x.foretold(0, 6, 2, 0), 7);
        Due.is(x, "as it will be", x.foretold(0, 6, 2, 0), x.knows(0, 8));
        Due.is(x, "nothing is changed", x.knows(0, 3), 15);
        Due.is(x, "nor the GAPS", x.gap(0, 6), 3);
        x = school(70, 0, 3);
        Due.is(x, "12 hours", x.knows(0, 3), 3);
        Due.is(x, "as they are worth", x.foretold(0, 3, 1, 12), 7);
        Due.is(x, "too few", x.foretold(0, 3, 1, 11), 3);
        Due.is(x, "1 hour is worth 0, but no GAP", x.foretold(0, 3, 60, 1), 3);
        Due.is(x, "0 hours fade", x.foretold(0, 3, 60, 0), 0);
        Due.none(x, "61 WEEKS", x.foretold(0, 3, 61, 1), 1);
        Due.none(x, "-1 WEEKS", x.foretold(0, 3, -1, 1), 1);
        Due.none(x, "61 hours", x.foretold(0, 3, 1, 61), 1);
        Due.none(x, "-1 hours", x.foretold(0, 3, 1, -1), 1);
        Due.none(x, "no such LEARNER", x.foretold(1, 3, 1, 1), 1);
        Due.none(x, "no such WEEK", x.foretold(0, 60, 1, 1), 1);
    }

    private static void wrongAsking() {
        LampYear x = school(30, 0, 59);
        int[] wrong = {-1, 1, 60, Integer.MIN_VALUE, Integer.MAX_VALUE};
        for (int w : wrong) {
            Due.none(x, "knows: LEARNER", x.knows(w, 0), 1);
            Due.none(x, "hours: LEARNER", x.hours(w, 0, 0), 1);
            Due.none(x, "gap: LEARNER", x.gap(w, 0), 1);
            int week = w == 1 ? 61 : w;
            Due.none(x, "knows: WEEK", x.knows(0, week), 1);
            Due.none(x, "hours: WEEK", x.hours(0, 0, week), 1);
            Due.none(x, "gap: WEEK", x.gap(0, week), 1);
            Due.none(x, "hours: LESSON", x.hours(0, w == 1 ? 15 : w, 0), 1);
        }
        Due.is(x, "the last LESSON", x.hours(0, 14, 59), 6);
    }
}

/** Promises 7 to 16: place, way, arrival, learner, teacher, lamp, note, asof, where, lit. */
public final class LandTest {
    private static final int NONE = LampYear.NONE;

    private LandTest() {
    }

    public static void main(String[] args) {
        places();
        ways();
        thirtyWays();
        arrivals();
        lastWeek();
        people();
        notesThatCant();
        notesTooMany();
        teachersLamp();
        learnersLamp();
        toldFirst();
        asOf();
        litBy();
        Due.end();
    }

    private static LampYear land(int places) {
        LampYear x = new LampYear();
        for (int i = 0; i < places; i++) {
            x.place(i % 4);
        }
        return x;
    }

    private static void places() {
        LampYear x = new LampYear();
        Due.none(x, "place(-1)", x.place(-1), 1);
        Due.none(x, "place(4)", x.place(4), 1);
        for (int i = 0; i < 16; i++) {
            Due.is(x, "place", x.place(i % 4), i);
        }
        Due.none(x, "a 17th", x.place(0), 4);
        Due.none(x, "a 17th that can't be", x.place(4), 1);
    }

    private static void ways() {
        LampYear x = land(4);
        Due.is(x, "way(0, 1, 1, NONE, NONE)", x.way(0, 1, 1, NONE, NONE), 0);
        Due.is(x, "way(1, 2, 9, 0, 59)", x.way(1, 2, 9, 0, 59), 1);
        Due.is(x, "one WEEK", x.way(0, 2, 9, 7, 7), 2);
        Due.none(x, "there already", x.way(0, 1, 5, 3, 4), 7);
        Due.none(x, "there already, the other way", x.way(2, 1, 5, 3, 4), 7);
        Due.none(x, "like PLACES", x.way(3, 3, 5, NONE, NONE), 1);
        Due.none(x, "no such PLACE", x.way(4, 0, 5, NONE, NONE), 1);
        Due.none(x, "no such PLACE", x.way(0, -1, 5, NONE, NONE), 1);
        Due.none(x, "0 weeks", x.way(0, 3, 0, NONE, NONE), 1);
        Due.none(x, "10 weeks", x.way(0, 3, 10, NONE, NONE), 1);
        Due.none(x, "to ahead of from", x.way(0, 3, 1, 5, 4), 1);
        Due.none(x, "NONE for one alone", x.way(0, 3, 1, NONE, 4), 1);
        Due.none(x, "NONE for one alone", x.way(0, 3, 1, 4, NONE), 1);
        Due.none(x, "WEEK 60", x.way(0, 3, 1, 4, 60), 1);
        Due.none(x, "WEEK 60", x.way(0, 3, 1, 60, 60), 1);
        Due.none(x, "-2 for both", x.way(0, 3, 1, -2, -2), 1);
        Due.none(x, "1 ahead of 7", x.way(0, 1, 10, NONE, NONE), 1);
        Due.is(x, "the next", x.way(3, 0, 1, 59, 59), 3);
    }

    private static void thirtyWays() {
        LampYear x = land(16);
        int n = 0;
        for (int a = 0; a < 16 && n < 30; a++) {
            for (int b = a + 1; b < 16 && n < 30; b++) {
                Due.is(x, "way", x.way(a, b, 1, NONE, NONE), n++);
            }
        }
        Due.none(x, "a 31st", x.way(14, 15, 1, NONE, NONE), 4);
        Due.none(x, "a 31st that is there already", x.way(0, 1, 1, NONE, NONE), 4);
        Due.none(x, "a 31st that can't be", x.way(0, 0, 1, NONE, NONE), 1);
    }

    private static void arrivals() {
        LampYear x = land(6);
        x.way(0, 1, 2, NONE, NONE);
        x.way(1, 2, 3, 5, 9);
        x.way(0, 2, 9, NONE, NONE);
        x.way(3, 4, 1, 0, 59);
        Due.is(x, "here", x.arrival(3, 3, 59), 59);
        Due.is(x, "by two", x.arrival(0, 2, 0), 5);
        Due.is(x, "enters just ahead of the rain", x.arrival(1, 2, 4), 7);
        Due.is(x, "in it: waits", x.arrival(1, 2, 5), 13);
        Due.is(x, "its last WEEK", x.arrival(1, 2, 9), 13);
        Due.is(x, "behind it", x.arrival(1, 2, 10), 13);
        Due.is(x, "waits or goes round", x.arrival(0, 2, 3), 12);
        Due.is(x, "back", x.arrival(2, 0, 4), 9);
        Due.is(x, "back in the rain goes round", x.arrival(2, 0, 5), 14);
        Due.none(x, "always shut", x.arrival(3, 4, 0), 6);
        Due.none(x, "no way", x.arrival(0, 5, 0), 6);
        Due.none(x, "no such PLACE", x.arrival(0, 6, 0), 1);
        Due.none(x, "no such PLACE", x.arrival(-1, 0, 0), 1);
        Due.none(x, "no such WEEK", x.arrival(0, 0, 60), 1);
        Due.none(x, "no such WEEK", x.arrival(0, 0, -1), 1);
    }

    private static void lastWeek() {
        LampYear x = land(16);
        for (int i = 0; i < 15; i++) {
            // told from the far end, so that no single round over the WAYS is enough
            x.way(14 - i, 15 - i, 4, NONE, NONE);
        }
        Due.is(x, "14 WAYS", x.arrival(0, 14, 3), 59);
        Due.none(x, "behind WEEK 59", x.arrival(0, 14, 4), 6);
        Due.is(x, "13 WAYS", x.arrival(14, 1, 4), 56);
        Due.none(x, "15 WAYS", x.arrival(0, 15, 0), 6);
    }

    private static void people() {
        LampYear x = land(2);
        Due.is(x, "learner", x.learner(1, 5, 0), 0);
        Due.is(x, "learner", x.learner(0, 99, 4), 1);
        Due.none(x, "home", x.learner(2, 9, 0), 1);
        Due.none(x, "home", x.learner(-1, 9, 0), 1);
        Due.none(x, "age 4", x.learner(0, 4, 0), 1);
        Due.none(x, "age 100", x.learner(0, 100, 0), 1);
        Due.none(x, "tongue 5", x.learner(0, 9, 5), 1);
        Due.none(x, "tongue -1", x.learner(0, 9, -1), 1);
        for (int i = 2; i < 40; i++) {
            Due.is(x, "learner", x.learner(0, 9, 0), i);
        }
        Due.none(x, "a 41st", x.learner(0, 9, 0), 4);
        Due.none(x, "a 41st that can't be", x.learner(0, 0, 0), 1);
        Due.none(x, "no TONGUES", x.teacher(0, 0), 1);
        Due.none(x, "TONGUES 32", x.teacher(32, 0), 1);
        Due.none(x, "waits nowhere", x.teacher(1, 2), 1);
        for (int i = 0; i < 20; i++) {
            Due.is(x, "teacher", x.teacher(i == 0 ? 1 : 31, i % 2), i);
        }
        Due.none(x, "a 21st", x.teacher(1, 0), 4);
        Due.none(x, "a 21st that can't be", x.teacher(1, -1), 1);
        Due.none(x, "lamp nowhere", x.lamp(2), 1);
        Due.none(x, "lamp nowhere", x.lamp(-1), 1);
        for (int i = 0; i < 12; i++) {
            Due.is(x, "lamp", x.lamp(i % 2), i);
        }
        Due.none(x, "a 13th", x.lamp(0), 4);
        Due.none(x, "a 13th that can't be", x.lamp(9), 1);
    }

    /** A PLACE, two LAMPS, two TEACHERS, three LEARNERS. */
    private static LampYear staffed() {
        LampYear x = land(1);
        x.lamp(0);
        x.lamp(0);
        x.teacher(1, 0);
        x.teacher(1, 0);
        x.learner(0, 9, 0);
        x.learner(0, 9, 0);
        x.learner(0, 9, 0);
        return x;
    }

    private static void notesThatCant() {
        LampYear x = staffed();
        Due.no(x, "sort 4", x.note(4, 0, 0, 0, 0, 0), 1);
        Due.no(x, "sort -1", x.note(-1, 0, 0, 0, 0, 0), 1);
        Due.no(x, "no such TEACHER", x.note(0, 2, 0, 0, 0, 0), 1);
        Due.yes(x, "but a LEARNER", x.note(1, 2, 0, 0, 0, 0));
        Due.no(x, "no such LEARNER", x.note(1, 3, 0, 0, 0, 0), 1);
        Due.no(x, "no such LEARNER", x.note(2, -1, NONE, 0, 0, 0), 1);
        Due.no(x, "no such TEACHER", x.note(3, 2, NONE, 0, 0, 0), 1);
        Due.no(x, "no such LAMP", x.note(0, 0, 2, 0, 0, 0), 1);
        Due.no(x, "NONE for sort 0", x.note(0, 0, NONE, 0, 0, 0), 1);
        Due.no(x, "NONE for sort 1", x.note(1, 0, NONE, 0, 0, 0), 1);
        Due.no(x, "a LAMP for sort 2", x.note(2, 0, 0, 0, 0, 0), 1);
        Due.no(x, "a LAMP for sort 3", x.note(3, 0, 1, 0, 0, 0), 1);
        Due.no(x, "-2 for sort 3", x.note(3, 0, -2, 0, 0, 0), 1);
        Due.no(x, "from", x.note(0, 0, 0, -1, 0, 0), 1);
        Due.no(x, "to", x.note(0, 0, 0, 0, 60, 0), 1);
        Due.no(x, "to ahead of from", x.note(0, 0, 0, 2, 1, 0), 1);
        Due.no(x, "known 60", x.note(0, 0, 0, 0, 0, 60), 1);
        Due.no(x, "known -1", x.note(0, 0, 0, 0, 0, -1), 1);
        Due.yes(x, "known 7", x.note(0, 0, 0, 0, 0, 7));
        Due.no(x, "known 6 is gone", x.note(0, 0, 0, 0, 0, 6), 5);
        Due.no(x, "1 ahead of 5", x.note(0, 0, 9, 0, 0, 6), 1);
        Due.yes(x, "known 7 again, of an earlier WEEK", x.note(0, 0, 0, 0, 0, 7));
    }

    private static void notesTooMany() {
        LampYear x = staffed();
        for (int i = 0; i < 160; i++) {
            Due.yes(x, "note", x.note(1, 0, i % 2, 0, 59, 3));
        }
        Due.is(x, "the latest", x.where(1, 0, 0), 1);
        Due.no(x, "a 161st", x.note(1, 0, 0, 0, 59, 3), 4);
        Due.no(x, "4 ahead of 5", x.note(1, 0, 0, 0, 59, 2), 4);
        Due.no(x, "1 ahead of 4", x.note(1, 3, 0, 0, 59, 3), 1);
        Due.is(x, "still the 160th", x.where(1, 0, 0), 1);
    }

    private static void teachersLamp() {
        LampYear x = staffed();
        x.note(0, 0, 0, 3, 9, 0);
        x.note(0, 0, 1, 5, 7, 0);
        int[] want = {NONE, NONE, NONE, 0, 0, 1, 1, 1, 0, 0, NONE};
        for (int w = 0; w < want.length; w++) {
            if (want[w] == NONE) {
                Due.none(x, "TEACHER in WEEK " + w, x.where(0, 0, w), 6);
            } else {
                Due.is(x, "TEACHER in WEEK " + w, x.where(0, 0, w), want[w]);
            }
        }
        x.note(3, 0, NONE, 4, 5, 0);
        x.note(0, 0, 0, 5, 5, 0);
        Due.is(x, "not yet ILL", x.where(0, 0, 3), 0);
        Due.none(x, "ILL", x.where(0, 0, 4), 6);
        Due.none(x, "ILL, though POSTED later", x.where(0, 0, 5), 6);
        Due.is(x, "well again", x.where(0, 0, 6), 1);
        x.note(2, 0, NONE, 6, 6, 0);
        Due.is(x, "AWAY is of LEARNERS", x.where(0, 0, 6), 1);
        Due.none(x, "another TEACHER", x.where(0, 1, 6), 6);
        Due.none(x, "what 2", x.where(2, 0, 6), 1);
        Due.none(x, "what -1", x.where(-1, 0, 6), 1);
        Due.none(x, "no such TEACHER", x.where(0, 2, 6), 1);
        Due.none(x, "no such WEEK", x.where(0, 0, 60), 1);
        Due.none(x, "no such WEEK", x.where(0, 0, -1), 1);
    }

    private static void learnersLamp() {
        LampYear x = staffed();
        x.note(1, 2, 1, 0, 59, 0);
        x.note(1, 2, 0, 10, 20, 0);
        x.note(2, 2, NONE, 12, 13, 0);
        x.note(1, 2, 1, 13, 13, 0);
        Due.is(x, "WEEK 9", x.where(1, 2, 9), 1);
        Due.is(x, "WEEK 10", x.where(1, 2, 10), 0);
        Due.none(x, "WEEK 12", x.where(1, 2, 12), 6);
        Due.none(x, "WEEK 13", x.where(1, 2, 13), 6);
        Due.is(x, "WEEK 14", x.where(1, 2, 14), 0);
        Due.is(x, "WEEK 59", x.where(1, 2, 59), 1);
        x.note(3, 1, NONE, 0, 59, 0);
        Due.is(x, "ILL is of TEACHERS", x.where(1, 2, 9), 1);
        Due.none(x, "another LEARNER", x.where(1, 1, 9), 6);
        Due.none(x, "no such LEARNER", x.where(1, 3, 9), 1);
    }

    /** AWAY and ILL hold though they were told ahead of all others. */
    private static void toldFirst() {
        LampYear x = staffed();
        x.note(2, 0, NONE, 3, 3, 0);
        x.note(1, 0, 1, 0, 59, 0);
        Due.none(x, "AWAY", x.where(1, 0, 3), 6);
        Due.is(x, "not AWAY", x.where(1, 0, 4), 1);
        x = staffed();
        x.note(3, 0, NONE, 3, 3, 0);
        x.note(0, 0, 1, 0, 59, 0);
        Due.none(x, "ILL", x.where(0, 0, 3), 6);
        Due.none(x, "not LIT", x.lit(1, 3), 6);
        Due.is(x, "not ILL", x.where(0, 0, 2), 1);
    }

    private static void asOf() {
        LampYear x = staffed();
        x.note(1, 0, 0, 0, 59, 2);
        x.note(1, 0, 1, 0, 59, 5);
        x.note(2, 0, NONE, 0, 59, 8);
        Due.none(x, "as of 59", x.where(1, 0, 0), 6);
        Due.yes(x, "asof(7)", x.asof(7));
        Due.is(x, "as of 7", x.where(1, 0, 0), 1);
        Due.no(x, "asof(60)", x.asof(60), 1);
        Due.no(x, "asof(-1)", x.asof(-1), 1);
        Due.is(x, "still as of 7", x.where(1, 0, 0), 1);
        Due.yes(x, "asof(4)", x.asof(4));
        Due.is(x, "as of 4", x.where(1, 0, 0), 0);
        Due.yes(x, "asof(5)", x.asof(5));
        Due.is(x, "as of 5", x.where(1, 0, 0), 1);
        Due.yes(x, "asof(0)", x.asof(0));
        Due.none(x, "as of 0", x.where(1, 0, 0), 6);
        Due.no(x, "the NOTES' WEEKS don't go back by it", x.note(1, 0, 0, 0, 59, 7), 5);
        Due.yes(x, "asof(59)", x.asof(59));
        Due.none(x, "as of 59", x.where(1, 0, 0), 6);
    }

    private static void litBy() {
        LampYear x = staffed();
        Due.none(x, "not LIT", x.lit(0, 0), 6);
        x.note(0, 1, 0, 0, 9, 0);
        Due.is(x, "by TEACHER 1", x.lit(0, 9), 1);
        x.note(0, 0, 0, 4, 9, 0);
        Due.is(x, "by the least", x.lit(0, 4), 0);
        Due.is(x, "WEEK 3", x.lit(0, 3), 1);
        x.note(3, 0, NONE, 6, 6, 0);
        Due.is(x, "the least is ILL", x.lit(0, 6), 1);
        x.note(0, 1, 1, 6, 6, 0);
        Due.none(x, "the other gone", x.lit(0, 6), 6);
        Due.is(x, "there", x.lit(1, 6), 1);
        for (int t = 2; t < 20; t++) {
            x.teacher(1, 0);
        }
        x.note(0, 19, 1, 30, 30, 0);
        Due.is(x, "by the last TEACHER", x.lit(1, 30), 19);
        Due.none(x, "no such LAMP", x.lit(2, 6), 1);
        Due.none(x, "no such LAMP", x.lit(-1, 6), 1);
        Due.none(x, "no such WEEK", x.lit(0, 60), 1);
    }
}

/** The edges of promises 7 to 16, sentence by sentence: places, ways, people, lamps, notes. */
public final class EdgeLandTest {
    private static final int NONE = LampYear.NONE;

    private EdgeLandTest() {
    }

    public static void main(String[] args) {
        places();
        waysThatCant();
        waysMany();
        wayLengths();
        shutWays();
        onTheWay();
        lastArrival();
        learners();
        teachers();
        lamps();
        notesThatCant();
        notesMany();
        notesKnown();
        asOf();
        teachersLamp();
        learnersLamp();
        litBy();
        Due.end();
    }

    private static void places() {
        Due.says("PLACES, at most 16, numbered as they come, each in a SHIRE (0 to 3).");
        Edge.ints("place: SHIRE", World.RICH, 0, 3, (x, v) -> x.place(v));
        LampYear x = new LampYear();
        for (int i = 0; i < 16; i++) {
            Due.is(x, "place", x.place(3 - i % 4), i);
        }
        Due.is(x, "a LAMP in the 16th", x.lamp(15), 0);
        Due.is(x, "a LEARNER of the 16th", x.learner(15, 9, 0), 0);
        Due.is(x, "a TEACHER in the 16th", x.teacher(1, 15), 0);
        Due.is(x, "a WAY to the 16th", x.way(0, 15, 1, NONE, NONE), 0);
        Due.is(x, "ARRIVAL in the 16th", x.arrival(0, 15, 0), 1);
        Due.is(x, "FLAG in the 16th", x.flag(15, 0), 0);
        Due.none(x, "there is no 17th", x.arrival(0, 16, 0), 1);

        Due.says("A PLACE more: its number (1, 4).");
        Edge.none("a 17th PLACE", World.FULL_PLACES, y -> y.place(0), 4);
        Edge.none("a 17th PLACE: 1 ahead of 4", World.FULL_PLACES, y -> y.place(4), 1);
        Edge.none("a 17th PLACE: 1 ahead of 4", World.FULL_PLACES, y -> y.place(-1), 1);
    }

    private static void waysThatCant() {
        Due.says("A WAY more (1: like PLACES, too; NONE for both of from, to: never; else from 0 on, to not ahead of it): "
                + "its number (4; 7: there is one between these).");
        World.Make row = () -> World.places(5);
        for (int v = 0; v < 4; v++) {
            Due.is("way(" + v + ", 4)", row.make().way(v, 4, 1, NONE, NONE), 0);
            Due.is("way(4, " + v + ")", row.make().way(4, v, 1, NONE, NONE), 0);
        }
        for (int v : new int[] {-1, 5, 16, Integer.MIN_VALUE, Integer.MAX_VALUE}) {
            Edge.none("way from PLACE " + v, World.RICH, x -> x.way(v, 4, 1, NONE, NONE), 1);
            Edge.none("way to PLACE " + v, World.RICH, x -> x.way(4, v, 1, NONE, NONE), 1);
            Edge.none("way from and to PLACE " + v, World.RICH, x -> x.way(v, v, 1, NONE, NONE), 1);
        }
        for (int v = 0; v < 5; v++) {
            int like = v;
            Edge.none("like PLACES " + v, World.RICH, x -> x.way(like, like, 1, NONE, NONE), 1);
        }
        Edge.ints("way: from", World.RICH, 0, 59, (x, v) -> x.way(0, 2, 1, v, 59));
        Edge.ints("way: to", World.RICH, 0, 59, (x, v) -> x.way(0, 2, 1, 0, v));
        Edge.ints("way: to not ahead of 7", World.RICH, 7, 59, (x, v) -> x.way(0, 2, 1, 7, v));
        Edge.ints("way: from not behind 7", World.RICH, 0, 7, (x, v) -> x.way(0, 2, 1, v, 7));
        for (int v : new int[] {0, 59, NONE}) {
            Due.is("way: both " + v, World.RICH.make().way(0, 2, 1, v, v), World.WAYS);
        }
        Edge.none("60 for both", World.RICH, x -> x.way(0, 2, 1, 60, 60), 1);
        Edge.none("NONE for from alone", World.RICH, x -> x.way(0, 2, 1, NONE, 0), 1);
        Edge.none("NONE for to alone", World.RICH, x -> x.way(0, 2, 1, 0, NONE), 1);
        Edge.none("-2 for both", World.RICH, x -> x.way(0, 2, 1, -2, -2), 1);
        Edge.none("-2 and NONE", World.RICH, x -> x.way(0, 2, 1, -2, NONE), 1);
        Edge.none("there is one", World.RICH, x -> x.way(0, 1, 9, 0, 3), 7);
        Edge.none("there is one, told from the other end", World.RICH, x -> x.way(4, 3, 1, NONE, NONE), 7);
        Edge.none("1 ahead of 7", World.RICH, x -> x.way(0, 1, 0, NONE, NONE), 1);
        Edge.none("1 ahead of 7", World.RICH, x -> x.way(1, 0, 1, 5, 4), 1);
        Edge.none("4 ahead of 7", World.FULL_WAYS, x -> x.way(0, 1, 1, NONE, NONE), 4);
        Edge.none("1 ahead of 4", World.FULL_WAYS, x -> x.way(14, 4, 10, NONE, NONE), 1);
        Edge.none("1 ahead of 4", World.FULL_WAYS, x -> x.way(4, 4, 1, NONE, NONE), 1);
    }

    private static void waysMany() {
        Due.says("WAYS, at most 30, numbered as they come: between two PLACES, so many WEEKS long (1 to 9), both ways alike; "
                + "SHUT by rain from a WEEK to a WEEK (both in it), or never.");
        LampYear x = World.places(16);
        for (int i = 0; i < 30; i++) {
            int a = i < 15 ? i : i - 15;
            Due.is(x, "WAY " + i, x.way(a, i < 15 ? 15 : a + 1 < 15 ? a + 1 : 1, 1, NONE, NONE), i);
        }
        Due.is(x, "the 30th is gone", x.arrival(14, 1, 0), 1);
        Due.none(x, "a 31st", x.way(5, 7, 1, NONE, NONE), 4);
        Due.is(x, "it is not there", x.arrival(5, 7, 0), 2);
        Edge.none("a 31st WAY", World.FULL_WAYS, y -> y.way(14, 4, 1, NONE, NONE), 4);
    }

    private static void wayLengths() {
        Edge.ints("way: weeks", World.RICH, 1, 9, (x, v) -> x.way(0, 2, v, NONE, NONE));
        for (int weeks = 1; weeks < 10; weeks++) {
            LampYear x = World.places(2);
            x.way(1, 0, weeks, NONE, NONE);
            Due.is(x, "there, " + weeks + " WEEKS", x.arrival(0, 1, 3), 3 + weeks);
            Due.is(x, "back, " + weeks + " WEEKS", x.arrival(1, 0, 3), 3 + weeks);
        }
    }

    /** A WAY of one WEEK, SHUT from a WEEK to a WEEK. */
    private static LampYear shut(int from, int to) {
        LampYear x = World.places(2);
        x.way(0, 1, 1, from, to);
        return x;
    }

    private static void shutWays() {
        Due.says("SHUT by rain from a WEEK to a WEEK (both in it), or never.");
        int[][] want = {{5, 9, 4, 5}, {5, 9, 5, 11}, {5, 9, 9, 11}, {5, 9, 10, 11}, {0, 0, 0, 2}, {0, 0, 1, 2},
            {7, 7, 6, 7}, {7, 7, 7, 9}, {7, 7, 8, 9}, {59, 59, 58, 59}, {0, 57, 0, 59}, {0, 57, 57, 59}, {NONE, NONE, 0, 1}};
        for (int[] w : want) {
            LampYear x = shut(w[0], w[1]);
            Due.is(x, "SHUT " + w[0] + " to " + w[1] + ", from WEEK " + w[2], x.arrival(0, 1, w[2]), w[3]);
            Due.is(x, "the other way, too", x.arrival(1, 0, w[2]), w[3]);
        }
        for (int[] w : new int[][] {{0, 58, 0}, {0, 58, 58}, {0, 59, 0}, {0, 59, 59}, {59, 59, 59}, {NONE, NONE, 59}}) {
            LampYear x = shut(w[0], w[1]);
            Due.none(x, "SHUT " + w[0] + " to " + w[1] + ", from WEEK " + w[2], x.arrival(0, 1, w[2]), 6);
        }
    }

    private static void onTheWay() {
        Due.says("Who travels is in a PLACE in a WEEK; enters a WAY in a WEEK in which that is not SHUT, and is at its end "
                + "so many WEEKS later, whatever comes meanwhile; may wait.");
        LampYear x = World.places(4);
        x.way(0, 1, 9, 1, 59);
        Due.is(x, "SHUT the WEEK behind it is entered", x.arrival(0, 1, 0), 9);
        Due.none(x, "a WEEK too late", x.arrival(0, 1, 1), 6);
        // from 1 to 2: SHUT when one comes; it is sooner to wait than to go round by 3
        x.way(1, 2, 1, 9, 10);
        x.way(1, 3, 1, NONE, NONE);
        x.way(3, 2, 2, NONE, NONE);
        Due.is(x, "waits where it is no later", x.arrival(0, 2, 0), 12);
        Due.is(x, "as soon by waiting as by going round", x.arrival(1, 2, 9), 12);
        Due.is(x, "waiting is sooner", x.arrival(1, 2, 10), 12);
        Due.is(x, "open", x.arrival(1, 2, 11), 12);
        Due.is(x, "just ahead of the rain", x.arrival(1, 2, 8), 9);
        LampYear y = World.places(3);
        y.way(0, 1, 1, 3, 30);
        y.way(1, 2, 1, NONE, NONE);
        y.way(0, 2, 9, NONE, NONE);
        Due.is(y, "goes round where waiting is later", y.arrival(0, 1, 3), 13);
        Due.is(y, "is in its own PLACE at once", y.arrival(0, 0, 3), 3);
    }

    private static void lastArrival() {
        Due.says("ARRIVAL: the first WEEK in which one who is in a PLACE in a WEEK can be in another one; none behind WEEK 59.");
        LampYear x = World.places(3);
        x.way(0, 1, 9, NONE, NONE);
        Due.is(x, "at WEEK 59", x.arrival(0, 1, 50), 59);
        Due.none(x, "at WEEK 60", x.arrival(0, 1, 51), 6);
        Due.is(x, "its own in WEEK 0", x.arrival(2, 2, 0), 0);
        Due.is(x, "its own in WEEK 59", x.arrival(2, 2, 59), 59);
        // the longest chain: 15 WAYS over all PLACES, told from its far end
        LampYear y = World.places(16);
        for (int i = 14; i >= 0; i--) {
            y.way(i, i + 1, i == 0 ? 3 : 4, NONE, NONE);
        }
        Due.is(y, "15 WAYS", y.arrival(0, 15, 0), 59);
        Due.is(y, "15 WAYS back", y.arrival(15, 0, 0), 59);
        Due.none(y, "15 WAYS, a WEEK later", y.arrival(0, 15, 1), 6);

        Due.says("ARRIVAL (1, 6).");
        Edge.ints("arrival: from and to", World.RICH, 0, World.PLACES - 1, (z, v) -> z.arrival(v, v, 0));
        for (int v : new int[] {-1, World.PLACES, 16, Integer.MIN_VALUE, Integer.MAX_VALUE}) {
            Edge.none("arrival from " + v, World.RICH, z -> z.arrival(v, 0, 0), 1);
            Edge.none("arrival in " + v, World.RICH, z -> z.arrival(0, v, 0), 1);
        }
        Edge.none("arrival: no way", World.RICH, z -> z.arrival(0, 4, 0), 6);
        Edge.none("arrival: 1 ahead of 6", World.RICH, z -> z.arrival(0, 4, 60), 1);
    }

    private static void learners() {
        Due.says("LEARNERS, at most 40, numbered as they come: a HOME (a PLACE), an AGE (5 to 99), a TONGUE (0 to 4).");
        Edge.ints("learner: HOME", World.RICH, 0, 4, (x, v) -> x.learner(v, 9, 0));
        Edge.ints("learner: AGE", World.RICH, 5, 99, (x, v) -> x.learner(0, v, 0));
        Edge.ints("learner: TONGUE", World.RICH, 0, 4, (x, v) -> x.learner(0, 9, v));
        LampYear x = World.places(1);
        for (int i = 0; i < 40; i++) {
            Due.is(x, "learner", x.learner(0, 5 + i, i % 5), i);
        }
        Due.is(x, "the 40th", x.gap(39, 0), 1);
        Due.none(x, "there is no 41st", x.gap(40, 0), 1);
        // AGE and TONGUE at both ends are kept as they are
        LampYear y = World.places(1);
        y.lamp(0);
        y.teacher(16, 0);
        y.note(0, 0, 0, 0, 59, 0);
        int[][] people = {{5, 0, 5}, {5, 4, 15}, {99, 4, 9}, {99, 0, 0}};
        for (int i = 0; i < people.length; i++) {
            y.learner(0, people[i][0], people[i][1]);
            y.note(1, i, 0, 0, 59, 0);
        }
        Due.orders(y, "a:hours age+10*tongue unless age>90;b:hours age-100+10*tongue unless age<90;", 0, 1);
        for (int i = 0; i < people.length; i++) {
            Due.is(y, "AGE " + people[i][0] + ", TONGUE " + people[i][1], y.taught(i, 0, 2), people[i][2]);
        }

        Due.says("A LEARNER more: its number (1, 4).");
        Edge.none("a 41st LEARNER", World.FULL_LEARNERS, z -> z.learner(0, 9, 0), 4);
        Edge.none("a 41st LEARNER: 1 ahead of 4", World.FULL_LEARNERS, z -> z.learner(5, 9, 0), 1);
        Edge.none("a 41st LEARNER: 1 ahead of 4", World.FULL_LEARNERS, z -> z.learner(0, 4, 0), 1);
        Edge.none("a 41st LEARNER: 1 ahead of 4", World.FULL_LEARNERS, z -> z.learner(0, 9, 5), 1);
    }

    private static void teachers() {
        Due.says("TEACHERS, at most 20, numbered as they come: TONGUES (a set: 1 for TONGUE 0, 2 for 1 .., 1 to 31), "
                + "a PLACE where they wait.");
        Edge.ints("teacher: TONGUES", World.RICH, 1, 31, (x, v) -> x.teacher(v, 0));
        Edge.ints("teacher: PLACE", World.RICH, 0, 4, (x, v) -> x.teacher(1, v));
        LampYear x = World.places(16);
        for (int i = 0; i < 20; i++) {
            Due.is(x, "teacher", x.teacher(1 + i, i % 16), i);
        }
        Due.none(x, "the 20th", x.where(0, 19, 0), 6);
        Due.none(x, "there is no 21st", x.where(0, 20, 0), 1);
        for (int tongue = 0; tongue < 5; tongue++) {
            for (int has : new int[] {1 << tongue, 31 - (1 << tongue)}) {
                LampYear y = World.places(1);
                y.lamp(0);
                y.teacher(has, 0);
                y.learner(0, 9, tongue);
                y.note(0, 0, 0, 0, 0, 0);
                y.note(1, 0, 0, 0, 0, 0);
                Due.orders(y, "a:hours 10+tongue;", 0, 1);
                Due.is(y, "TONGUE " + tongue + " of " + has, y.taught(0, 0, 2), has == 1 << tongue ? 11 : 10);
            }
        }

        Due.says("A TEACHER more: its number (1, 4).");
        Edge.none("a 21st TEACHER", World.FULL_TEACHERS, z -> z.teacher(1, 0), 4);
        Edge.none("a 21st TEACHER: 1 ahead of 4", World.FULL_TEACHERS, z -> z.teacher(0, 0), 1);
        Edge.none("a 21st TEACHER: 1 ahead of 4", World.FULL_TEACHERS, z -> z.teacher(32, 0), 1);
        Edge.none("a 21st TEACHER: 1 ahead of 4", World.FULL_TEACHERS, z -> z.teacher(1, 5), 1);
    }

    private static void lamps() {
        Due.says("LAMPS, at most 12, numbered as they come, each in a PLACE.");
        Edge.ints("lamp: PLACE", World.RICH, 0, 4, (x, v) -> x.lamp(v));
        LampYear x = World.places(1);
        for (int i = 0; i < 12; i++) {
            Due.is(x, "lamp", x.lamp(0), i);
        }
        Due.none(x, "the 12th", x.lit(11, 0), 6);
        Due.none(x, "there is no 13th", x.lit(12, 0), 1);

        Due.says("A LAMP more: its number (1, 4).");
        Edge.none("a 13th LAMP", World.FULL_LAMPS, z -> z.lamp(0), 4);
        Edge.none("a 13th LAMP: 1 ahead of 4", World.FULL_LAMPS, z -> z.lamp(5), 1);
        Edge.none("a 13th LAMP: 1 ahead of 4", World.FULL_LAMPS, z -> z.lamp(-1), 1);
    }

    private static void notesThatCant() {
        Due.says("A NOTE (1: who, by its sort; the LAMP of sorts 0 and 1, NONE for others; 4; 5).");
        int known = World.LATEST;
        Edge.yeses("note: sort with a LAMP", World.RICH, 0, 1, (x, v) -> x.note(v, 0, 0, 0, 0, known));
        Edge.yeses("note: sort with NONE", World.RICH, 2, 3, (x, v) -> x.note(v, 0, NONE, 0, 0, known));
        int[] who = {World.TEACHERS, World.LEARNERS, World.LEARNERS, World.TEACHERS};
        for (int sort = 0; sort < 4; sort++) {
            int s = sort;
            int lamp = s < 2 ? 0 : NONE;
            Edge.yeses("note: who of sort " + s, World.RICH, 0, who[s] - 1, (x, v) -> x.note(s, v, lamp, 0, 0, known));
            Edge.yeses("note: from of sort " + s, World.RICH, 0, 59, (x, v) -> x.note(s, 0, lamp, v, 59, known));
            Edge.yeses("note: to of sort " + s, World.RICH, 0, 59, (x, v) -> x.note(s, 0, lamp, 0, v, known));
            Edge.yeses("note: one WEEK of sort " + s, World.RICH, 0, 59, (x, v) -> x.note(s, 0, lamp, v, v, known));
            Edge.yeses("note: to not ahead of 7, sort " + s, World.RICH, 7, 59, (x, v) -> x.note(s, 0, lamp, 7, v, known));
            if (s < 2) {
                Edge.yeses("note: LAMP of sort " + s, World.RICH, 0, World.LAMPS - 1, (x, v) -> x.note(s, 0, v, 0, 0, known));
            } else {
                Edge.yeses("note: NONE of sort " + s, World.RICH, NONE, NONE, (x, v) -> x.note(s, 0, v, 0, 0, known));
            }
            Edge.no("1 ahead of 5", World.RICH, x -> x.note(s, who[s], lamp, 0, 0, known - 1), 1);
            Edge.no("1 ahead of 4", World.FULL_NOTES, x -> x.note(s, who[s], lamp, 0, 0, known), 1);
            Edge.no("4", World.FULL_NOTES, x -> x.note(s, 0, lamp, 0, 0, known), 4);
            Edge.no("4 ahead of 5", World.FULL_NOTES, x -> x.note(s, 0, lamp, 0, 0, known - 1), 4);
        }
        Edge.no("sort 4", World.RICH, x -> x.note(4, 0, NONE, 0, 0, known), 1);
        Edge.no("sort -1", World.RICH, x -> x.note(-1, 0, 0, 0, 0, known), 1);
    }

    private static void notesMany() {
        Due.says("NOTES, at most 160, each of one of four sorts, from a WEEK to a WEEK (both in it), KNOWN by a WEEK "
                + "(these never go back): 0: a TEACHER is POSTED to a LAMP; 1: a LEARNER comes to a LAMP; "
                + "2: a LEARNER is AWAY; 3: a TEACHER is ILL.");
        LampYear x = World.school(30);
        // two NOTES made the school
        for (int i = 2; i < 160; i++) {
            Due.yes(x, "NOTE " + i, x.note(i == 159 ? 3 : i % 2 == 0 ? 1 : 0, 0, i == 159 ? NONE : 0, 7, 7, 0));
        }
        Due.none(x, "the 160th holds", x.where(0, 0, 7), 6);
        Due.no(x, "a 161st", x.note(2, 0, NONE, 8, 8, 0), 4);
        Due.is(x, "it does not hold", x.where(1, 0, 8), 0);
        LampYear y = World.school(30);
        y.note(2, 0, NONE, 3, 5, 0);
        y.note(3, 0, NONE, 20, 20, 0);
        int[][] away = {{2, 0}, {3, 6}, {5, 6}, {6, 0}};
        for (int[] w : away) {
            Due.is("AWAY in WEEK " + w[0], y.where(1, 0, w[0]), w[1] == 0 ? 0 : NONE);
            Due.is("STATUS", y.status(), w[1]);
        }
        for (int w = 19; w < 22; w++) {
            Due.is("ILL in WEEK " + w, y.where(0, 0, w), w == 20 ? NONE : 0);
        }
    }

    private static void notesKnown() {
        Due.says("KNOWN by a WEEK (these never go back)");
        Edge.yeses("note: known", EdgeLandTest::bare, 0, 59, (x, v) -> x.note(2, 0, NONE, 0, 0, v));
        Edge.no("the WEEK ahead is gone", World.RICH, x -> x.note(2, 0, NONE, 0, 0, World.LATEST - 1), 5);
        Edge.no("WEEK 0 is gone", World.RICH, x -> x.note(2, 0, NONE, 0, 0, 0), 5);
        Edge.no("WEEK -1 can't be", World.RICH, x -> x.note(2, 0, NONE, 0, 0, -1), 1);
        Edge.no("WEEK 60 can't be", World.RICH, x -> x.note(2, 0, NONE, 0, 0, 60), 1);
        LampYear x = bare();
        Due.yes(x, "59", x.note(2, 0, NONE, 0, 0, 59));
        Due.no(x, "58 behind 59", x.note(2, 0, NONE, 0, 0, 58), 5);
        Due.yes(x, "59 again", x.note(2, 0, NONE, 0, 0, 59));
        // a refused one is no NOTE: what it would be KNOWN by does not count
        x = bare();
        x.note(2, 1, NONE, 0, 0, 40);
        x.note(2, 0, 0, 0, 0, 40);
        Due.yes(x, "0", x.note(2, 0, NONE, 0, 0, 0));
        // AS OF does not set the WEEK, and sorts don't have their own
        x.asof(50);
        Due.yes(x, "3", x.note(1, 0, 0, 0, 0, 3));
        Due.no(x, "2 of another sort", x.note(2, 0, NONE, 0, 0, 2), 5);
    }

    /** A PLACE, a LAMP, a TEACHER, a LEARNER, no NOTE. */
    private static LampYear bare() {
        LampYear x = World.places(1);
        x.lamp(0);
        x.teacher(1, 0);
        x.learner(0, 9, 0);
        return x;
    }

    private static void asOf() {
        Due.says("AS OF a WEEK (59 at first) all is told by the NOTES then KNOWN.");
        LampYear x = bare();
        x.note(1, 0, 0, 0, 59, 0);
        x.note(2, 0, NONE, 30, 30, 1);
        x.note(2, 0, NONE, 31, 31, 58);
        x.note(2, 0, NONE, 32, 32, 59);
        int[][] want = {{59, NONE, NONE, NONE}, {58, NONE, NONE, 0}, {57, NONE, 0, 0}, {1, NONE, 0, 0}, {0, 0, 0, 0}, {59, NONE, NONE, NONE}};
        for (int i = 0; i < want.length; i++) {
            if (i > 0) {
                Due.yes(x, "asof(" + want[i][0] + ")", x.asof(want[i][0]));
            }
            for (int k = 0; k < 3; k++) {
                Due.is("as of " + want[i][0] + " in WEEK " + (30 + k), x.where(1, 0, 30 + k), want[i][k + 1]);
            }
        }

        Due.says("AS OF (1).");
        Edge.yeses("asof", World.RICH, 0, 59, (y, v) -> y.asof(v));
    }

    private static void teachersLamp() {
        Due.says("A TEACHER's LAMP in a WEEK: by the NOTE of sort 0 with that WEEK that was told latest; "
                + "none if there is none, or a NOTE of sort 3 has that WEEK.");
        LampYear x = bare();
        x.lamp(0);
        Due.none(x, "no NOTE at all", x.where(0, 0, 0), 6);
        x.note(0, 0, 1, 10, 20, 0);
        x.note(0, 0, 0, 15, 15, 0);
        int[][] want = {{9, NONE}, {10, 1}, {14, 1}, {15, 0}, {16, 1}, {20, 1}, {21, NONE}};
        for (int[] w : want) {
            Due.is("WEEK " + w[0], x.where(0, 0, w[0]), w[1]);
        }
        x.note(0, 0, 1, 15, 15, 0);
        Due.is(x, "told later still", x.where(0, 0, 15), 1);
        x.note(3, 0, NONE, 20, 20, 0);
        x.note(0, 0, 0, 20, 20, 0);
        Due.none(x, "ILL, though POSTED later", x.where(0, 0, 20), 6);
        Due.is(x, "well the WEEK ahead", x.where(0, 0, 19), 1);
        x.note(3, 0, NONE, 40, 40, 0);
        Due.none(x, "ILL and not POSTED", x.where(0, 0, 40), 6);

        Due.says("The LAMP of a TEACHER (what 0), a LEARNER (1) in a WEEK (1, 6).");
        Edge.ints("where: what", World.RICH, 0, 1, (y, v) -> y.where(v, 0, 0));
        Edge.ints("where: TEACHER", World.RICH, 0, World.TEACHERS - 1, (y, v) -> y.where(0, v, 0));
        Edge.ints("where: LEARNER", World.RICH, 0, World.LEARNERS - 1, (y, v) -> y.where(1, v, 5));
        Edge.none("where: none", World.RICH, y -> y.where(0, 0, 12), 6);
        Edge.none("where: none", World.RICH, y -> y.where(1, 0, 10), 6);
        Edge.none("where: 1 ahead of 6", World.RICH, y -> y.where(2, 0, 12), 1);
    }

    private static void learnersLamp() {
        Due.says("A LEARNER's LAMP: likewise by sort 1; none if a NOTE of sort 2 has that WEEK.");
        LampYear x = bare();
        x.lamp(0);
        Due.none(x, "no NOTE at all", x.where(1, 0, 59), 6);
        x.note(1, 0, 1, 0, 59, 0);
        x.note(2, 0, NONE, 0, 0, 0);
        x.note(1, 0, 0, 0, 1, 0);
        x.note(2, 0, NONE, 59, 59, 0);
        int[][] want = {{0, NONE}, {1, 0}, {2, 1}, {58, 1}, {59, NONE}};
        for (int[] w : want) {
            Due.is("WEEK " + w[0], x.where(1, 0, w[0]), w[1]);
        }
        // the LAMP need not be LIT
        Due.none(x, "not LIT", x.lit(1, 5), 6);
    }

    private static void litBy() {
        Due.says("LIT is a LAMP in a WEEK, if it is some TEACHER's LAMP; its TEACHER is the least of these.");
        LampYear x = World.places(1);
        for (int i = 0; i < 20; i++) {
            x.teacher(1, 0);
        }
        for (int i = 0; i < 12; i++) {
            x.lamp(0);
        }
        for (int t = 19; t >= 0; t--) {
            x.note(0, t, 11, 20 - t, 59, 0);
        }
        Due.none(x, "nobody's", x.lit(11, 0), 6);
        Due.is(x, "the last TEACHER alone", x.lit(11, 1), 19);
        Due.is(x, "two", x.lit(11, 2), 18);
        Due.is(x, "nineteen", x.lit(11, 19), 1);
        Due.is(x, "all twenty", x.lit(11, 20), 0);
        x.note(3, 0, NONE, 59, 59, 0);
        Due.is(x, "all but one who is ILL", x.lit(11, 59), 1);
        Due.none(x, "another LAMP", x.lit(10, 59), 6);

        // ILL and AWAY hold though they are the first NOTES of all
        LampYear first = bare();
        first.note(3, 0, NONE, 3, 3, 0);
        first.note(0, 0, 0, 0, 59, 0);
        Due.none(first, "ILL", first.lit(0, 3), 6);
        Due.is(first, "well", first.lit(0, 4), 0);
        first = bare();
        first.note(2, 0, NONE, 3, 3, 0);
        first.note(1, 0, 0, 0, 59, 0);
        Due.none(first, "AWAY", first.where(1, 0, 3), 6);
        Due.is(first, "there", first.where(1, 0, 2), 0);

        Due.says("The TEACHER of a LAMP in a WEEK (1; 6: it is not LIT).");
        Edge.ints("lit: LAMP", World.RICH, 0, World.LAMPS - 1, (y, v) -> y.lit(v, 40));
        Edge.none("lit: it is not", World.RICH, y -> y.lit(3, 39), 6);
        Edge.none("lit: 1 ahead of 6", World.RICH, y -> y.lit(4, 39), 1);
    }
}

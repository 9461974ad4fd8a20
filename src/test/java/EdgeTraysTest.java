/** The edges of promises 1 to 6, sentence by sentence: a new object, status, tray, write, read, pour. */
public final class EdgeTraysTest {
    private static final int NONE = LampYear.NONE;
    private static final int MIN = Integer.MIN_VALUE;
    private static final int MAX = Integer.MAX_VALUE;

    private EdgeTraysTest() {
    }

    public static void main(String[] args) {
        newObject();
        status();
        trays();
        bits();
        rowOfNoughts();
        writing();
        reading();
        pouring();
        pouringTooFar();
        pouringAskedInOrder();
        lastCalls();
        Due.end();
    }

    private static void newObject() {
        Due.says("No PLACES; TRAYS are MISSING; an empty tape; AS OF 59; STATUS 0.");
        LampYear x = new LampYear();
        Due.is("STATUS", x.status(), 0);
        for (int t = 0; t < 4; t++) {
            Due.none(x, "TRAY " + t, x.read(t, 0), 2);
        }
        Due.none(x, "PLACE 0 for a LEARNER", x.learner(0, 5, 0), 1);
        Due.none(x, "PLACE 0 for a TEACHER", x.teacher(1, 0), 1);
        Due.none(x, "PLACE 0 for a LAMP", x.lamp(0), 1);
        Due.none(x, "PLACE 0 to travel", x.arrival(0, 0, 0), 1);
        Due.none(x, "PLACE 0 for a FLAG", x.flag(0, 0), 1);
        Due.none(x, "LEARNER 0", x.knows(0, 0), 1);
        Due.none(x, "TEACHER 0", x.where(0, 0, 0), 1);
        Due.none(x, "LAMP 0", x.lit(0, 0), 1);
        Due.none(x, "PROOF 0", x.slips(0, 0), 1);
        Due.none(x, "RULE 0", x.struck(0, 59, 0), 1);
        Due.none(x, "a byte of the tape", x.orders(1, 0, 1), 1);
        Due.is(x, "no byte of the tape", x.orders(0, 0, 1), 0);
        x = new LampYear();
        Due.is("the first twenty bytes", x.feed(0, 0, 0, 0, 0), 20);
        Due.is(x, "the first PLACE", x.place(0), 0);
        x.lamp(0);
        x.teacher(1, 0);
        x.note(0, 0, 0, 0, 59, 59);
        Due.is(x, "KNOWN by 59", x.lit(0, 0), 0);

        Due.says("`NONE = -1`: None.");
        Due.is("NONE", LampYear.NONE, -1);
    }

    private static void status() {
        Due.says("STATUS of the latest call that has one.");
        LampYear x = new LampYear();
        Due.no(x, "tray(4, 0, 0)", x.tray(4, 0, 0), 1);
        Due.is("told twice", x.status(), 1);
        Due.none(x, "read(0, 0)", x.read(0, 0), 2);
        Due.yes(x, "tray(0, 0, 0)", x.tray(0, 0, 0));
        Due.none(x, "read(0, 0)", x.read(0, 0), 3);

        Due.says("status(), feed(), fault() have none.");
        for (int i = 0; i < 31; i++) {
            x.feed(0, 0, 0, 0, 0);
            Due.is("behind feed " + i, x.status(), 3);
        }
        for (int what : new int[] {MIN, -1, 0, 1, 2, MAX}) {
            x.fault(what);
            Due.is("behind fault " + what, x.status(), 3);
        }
        Due.yes(x, "tray(0, 0, 1)", x.tray(0, 0, 1));
        Due.is("feed that is NONE", x.feed(0, 0, 0, 0, 0), NONE);
        Due.is("behind it", x.status(), 0);
        Due.is("fault ahead of any", x.fault(0), NONE);
        Due.is("behind it", x.status(), 0);
    }

    private static void trays() {
        Due.says("TRAYS 0 to 3 are MISSING at first, or rows of 0 to 60 numbers of 8 bits (sort 0), 16 (1), 32 (2) or 64 (3).");
        Edge.yeses("tray: TRAY", World.RICH, 0, 3, (x, v) -> x.tray(v, 0, 1));
        Edge.yeses("tray: sort", World.RICH, 0, 3, (x, v) -> x.tray(2, v, 1));
        Edge.yeses("tray: many", World.RICH, 0, 60, (x, v) -> x.tray(2, 3, v));
        LampYear x = new LampYear();
        x.tray(0, 0, 0);
        Due.none(x, "0 numbers: place 0", x.read(0, 0), 3);
        Due.no(x, "0 numbers: place 0", x.write(0, 0, 1), 3);
        Due.yes(x, "60 numbers", x.tray(0, 3, 60));
        Due.yes(x, "60 numbers: place 59", x.write(0, 59, 5));
        Due.is(x, "60 numbers: place 59", x.read(0, 59), 5);
        Due.no(x, "60 numbers: place 60", x.write(0, 60, 5), 3);
        Due.none(x, "60 numbers: place 60", x.read(0, 60), 3);
        for (int t = 1; t < 4; t++) {
            Due.none(x, "TRAY " + t + " is still MISSING", x.read(t, 0), 2);
        }
        // full rows stand side by side
        for (int t = 0; t < 4; t++) {
            x.tray(t, 2, 60);
            x.write(t, 0, 100 + t);
            x.write(t, 59, 200 + t);
        }
        for (int t = 0; t < 4; t++) {
            Due.is(x, "first of TRAY " + t, x.read(t, 0), 100 + t);
            Due.is(x, "second of TRAY " + t, x.read(t, 1), 0);
            Due.is(x, "last of TRAY " + t, x.read(t, 59), 200 + t);
        }
    }

    private static void cut(LampYear x, int sort, long v, long want) {
        Due.yes(x, "write " + v, x.write(sort, 0, v));
        Due.is(x, v + " in sort " + sort, x.read(sort, 0), want);
    }

    private static void bits() {
        Due.says("A number comes to a place of a TRAY, cut to its sort (1, 2, 3).");
        LampYear x = new LampYear();
        for (int sort = 0; sort < 4; sort++) {
            x.tray(sort, sort, 1);
        }
        for (int sort = 0; sort < 3; sort++) {
            long half = 1L << (8 << sort) - 1;
            cut(x, sort, half - 1, half - 1);
            cut(x, sort, half, -half);
            cut(x, sort, half + 1, 1 - half);
            cut(x, sort, -half, -half);
            cut(x, sort, -half - 1, half - 1);
            cut(x, sort, 2 * half - 1, -1);
            cut(x, sort, 2 * half, 0);
            cut(x, sort, 2 * half + 7, 7);
            cut(x, sort, -2 * half, 0);
            cut(x, sort, Long.MAX_VALUE, -1);
            cut(x, sort, Long.MIN_VALUE, 0);
        }
        cut(x, 3, Long.MAX_VALUE, Long.MAX_VALUE);
        cut(x, 3, Long.MIN_VALUE, Long.MIN_VALUE);
        cut(x, 3, 1L << 32, 1L << 32);
        cut(x, 3, -1, -1);
    }

    private static void rowOfNoughts() {
        Due.says("A TRAY is a row of so many 0s (1).");
        LampYear x = new LampYear();
        for (int many : new int[] {60, 59, 1, 60}) {
            Due.yes(x, "tray", x.tray(1, 0, many));
            for (int i = 0; i < many; i++) {
                Due.is("place " + i + " of " + many, x.read(1, i), 0);
                x.write(1, i, 9);
            }
            Due.none(x, "behind the last of " + many, x.read(1, many), 3);
        }
    }

    private static void writing() {
        Due.says("A number comes to a place of a TRAY, cut to its sort (1, 2, 3).");
        Edge.yeses("write: TRAY", ALIKE, 0, 3, (x, v) -> x.write(v, 0, 1));
        Edge.no("write: MISSING", World.RICH, x -> x.write(3, 0, 1), 2);
        Edge.no("write: MISSING, whatever the place", World.RICH, x -> x.write(3, -1, 1), 2);
        Edge.no("write: MISSING, whatever the place", World.RICH, x -> x.write(3, 60, 1), 2);
        Edge.no("write: no TRAY, whatever the place", World.RICH, x -> x.write(4, 99, 1), 1);
        Edge.yeses("write: place of 4", World.RICH, 0, 3, 3, (x, v) -> x.write(0, v, 1));
        Edge.yeses("write: place of 6", World.RICH, 0, 5, 3, (x, v) -> x.write(2, v, 1));
        LampYear x = World.RICH.make();
        Due.yes(x, "write", x.write(0, 3, 5));
        Due.is(x, "the one ahead", x.read(0, 2), 2);
        Due.is(x, "it", x.read(0, 3), 5);
        Due.is(x, "another TRAY", x.read(1, 0), 2);
    }

    private static void reading() {
        Due.says("The number in a place of a TRAY; STATUS tells NONE from -1 (1, 2, 3).");
        Edge.ints("read: TRAY", ALIKE, 0, 3, (x, v) -> x.read(v, 0));
        Edge.none("read: no TRAY, whatever the place", World.RICH, x -> x.read(4, -1), 1);
        Edge.none("read: MISSING", World.RICH, x -> x.read(3, 0), 2);
        Edge.none("read: MISSING, whatever the place", World.RICH, x -> x.read(3, -1), 2);
        Edge.ints("read: place of 4", World.RICH, 0, 3, 3, (x, v) -> x.read(0, v));
        Edge.ints("read: place of 6", World.RICH, 0, 5, 3, (x, v) -> x.read(2, v));
        LampYear x = World.RICH.make();
        Due.is(x, "a number that is -1", x.read(2, 2), -1);
        Due.is(x, "the greatest", x.read(2, 0), Long.MAX_VALUE);
        Due.is(x, "the least", x.read(2, 1), Long.MIN_VALUE);
    }

    private static void row(LampYear x, int tray, long... want) {
        for (int i = 0; i < want.length; i++) {
            Due.is(x, "read(" + tray + ", " + i + ")", x.read(tray, i), want[i]);
        }
    }

    private static void pouring() {
        Due.says("So many numbers of a TRAY, from a place on, come to another one's (or its own) place on, as they were "
                + "(1: below 0, too; 2; 8; 3; asked in this order).");
        LampYear x = new LampYear();
        World.fill(x, 0, 3, 1, 2, 3, 4, 5);
        World.fill(x, 1, 3, 7, 7, 7);
        Due.yes(x, "0 numbers", x.pour(0, 0, 1, 0, 0));
        Due.yes(x, "0 numbers from the last place", x.pour(0, 4, 1, 2, 0));
        row(x, 1, 7, 7, 7);
        Due.yes(x, "the last one to the last place", x.pour(0, 4, 1, 2, 1));
        row(x, 1, 7, 7, 5);
        Due.yes(x, "as many as the other has", x.pour(0, 2, 1, 0, 3));
        row(x, 1, 3, 4, 5);
        row(x, 0, 1, 2, 3, 4, 5);
        Due.yes(x, "its own, one place on", x.pour(0, 0, 0, 1, 4));
        row(x, 0, 1, 1, 2, 3, 4);
        World.fill(x, 0, 3, 1, 2, 3, 4, 5);
        Due.yes(x, "its own, one place back", x.pour(0, 1, 0, 0, 4));
        row(x, 0, 2, 3, 4, 5, 5);
        Due.yes(x, "all of it to where it is", x.pour(0, 0, 0, 0, 5));
        row(x, 0, 2, 3, 4, 5, 5);
        x.tray(2, 0, 60);
        x.tray(3, 0, 60);
        x.write(2, 0, -128);
        x.write(2, 59, 127);
        Due.yes(x, "60 numbers", x.pour(2, 0, 3, 0, 60));
        Due.is(x, "the first of 60", x.read(3, 0), -128);
        Due.is(x, "the last of 60", x.read(3, 59), 127);
        x.tray(2, 0, 0);
        Due.yes(x, "0 of 0", x.pour(2, 0, 3, 0, 0));
        Due.yes(x, "0 of its own 0", x.pour(2, 0, 2, 0, 0));
    }

    /** RICH, with TRAY 3 of the same sort as TRAY 0, which has four numbers; two here. */
    private static LampYear twoAlike() {
        LampYear x = World.RICH.make();
        World.fill(x, 3, 0, 8, 9);
        return x;
    }

    private static final World.Make ALIKE = EdgeTraysTest::twoAlike;

    private static void pouringTooFar() {
        Edge.yeses("pour: from", ALIKE, 0, 3, (x, v) -> x.pour(v, 0, v == 0 || v == 3 ? 0 : v, 0, 1));
        Edge.yeses("pour: to", ALIKE, 0, 3, (x, v) -> x.pour(v == 0 || v == 3 ? 0 : v, 0, v, 0, 1));
        Edge.no("pour: place -1", ALIKE, x -> x.pour(0, -1, 3, 0, 1), 1);
        Edge.no("pour: place MIN", ALIKE, x -> x.pour(0, MIN, 3, 0, 1), 1);
        Edge.no("pour: at -1", ALIKE, x -> x.pour(0, 0, 3, -1, 1), 1);
        Edge.no("pour: at MIN", ALIKE, x -> x.pour(0, 0, 3, MIN, 1), 1);
        Edge.no("pour: many -1", ALIKE, x -> x.pour(0, 0, 3, 0, -1), 1);
        Edge.no("pour: many MIN", ALIKE, x -> x.pour(0, 0, 3, 0, MIN), 1);
        Edge.no("pour: the place behind the last", ALIKE, x -> x.pour(0, 4, 3, 0, 1), 3);
        Edge.no("pour: to the place behind the last", ALIKE, x -> x.pour(0, 0, 3, 2, 1), 3);
        Edge.no("pour: one too many here", ALIKE, x -> x.pour(3, 1, 0, 0, 2), 3);
        Edge.no("pour: one too many there", ALIKE, x -> x.pour(0, 0, 3, 1, 2), 3);
        Edge.no("pour: one more than there are", ALIKE, x -> x.pour(0, 0, 0, 0, 5), 3);
        Edge.no("pour: 0 from far behind the last", ALIKE, x -> x.pour(0, 5, 3, 0, 0), 3);
        Edge.no("pour: 0 to far behind the last", ALIKE, x -> x.pour(0, 0, 3, 3, 0), 3);
        Edge.no("pour: MAX here", ALIKE, x -> x.pour(0, MAX, 3, 0, 1), 3);
        Edge.no("pour: MAX there", ALIKE, x -> x.pour(0, 0, 3, MAX, 1), 3);
        Edge.no("pour: MAX many", ALIKE, x -> x.pour(0, 1, 3, 1, MAX), 3);
        Edge.no("pour: their sum goes round", ALIKE, x -> x.pour(0, MAX, 3, MAX, MAX), 3);
    }

    private static void pouringAskedInOrder() {
        Edge.no("pour: 1 ahead of 2", World.RICH, x -> x.pour(3, -1, 0, 0, 1), 1);
        Edge.no("pour: 1 ahead of 2", World.RICH, x -> x.pour(0, 0, 3, 0, -1), 1);
        Edge.no("pour: 1 ahead of 8", World.RICH, x -> x.pour(0, 0, 1, -1, 1), 1);
        Edge.no("pour: 1 ahead of 3", World.RICH, x -> x.pour(0, 9, 0, 0, -1), 1);
        Edge.no("pour: 1 of the other TRAY ahead of 2", World.RICH, x -> x.pour(3, 0, 4, 0, 1), 1);
        Edge.no("pour: MISSING from", World.RICH, x -> x.pour(3, 0, 0, 0, 1), 2);
        Edge.no("pour: MISSING to", World.RICH, x -> x.pour(0, 0, 3, 0, 1), 2);
        Edge.no("pour: MISSING from, of any sort", World.RICH, x -> x.pour(3, 0, 2, 0, 1), 2);
        Edge.no("pour: MISSING to, of any sort", World.RICH, x -> x.pour(2, 0, 3, 0, 1), 2);
        Edge.no("pour: MISSING both", World.RICH, x -> x.pour(3, 0, 3, 0, 0), 2);
        Edge.no("pour: 2 ahead of 3", World.RICH, x -> x.pour(0, 9, 3, 0, 1), 2);
        Edge.no("pour: unlike sorts", World.RICH, x -> x.pour(0, 0, 1, 0, 1), 8);
        Edge.no("pour: unlike sorts, 0 numbers", World.RICH, x -> x.pour(1, 0, 2, 0, 0), 8);
        Edge.no("pour: 8 ahead of 3", World.RICH, x -> x.pour(0, 9, 1, 9, 9), 8);
    }

    private static void lastCalls() {
        Due.says("An object is used for at most 512 calls after it has been made; what later calls answer is free.");
        LampYear x = World.school(30);
        // 6 calls made it; the 512th is the last
        for (int i = 6; i < 508; i++) {
            x.note(2, 0, NONE, 1, 1, 0);
        }
        Due.is("call 509", x.knows(0, 1), 1);
        Due.is("call 510", x.status(), 0);
        Due.is("call 511", x.place(3), 1);
        Due.is("call 512", x.status(), 0);
    }
}

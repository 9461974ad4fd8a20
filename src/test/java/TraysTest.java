/** Promises 1 to 6: a new object, status, tray, write, read, pour. */
public final class TraysTest {
    private static final int MIN = Integer.MIN_VALUE;
    private static final int MAX = Integer.MAX_VALUE;

    private TraysTest() {
    }

    public static void main(String[] args) {
        newObject();
        statusOfLatest();
        layTrays();
        cutToSort();
        wrongPlaces();
        pourOver();
        pourWrong();
        Due.end();
    }

    private static void newObject() {
        LampYear x = new LampYear();
        Due.is("status of a new object", x.status(), 0);
        Due.is("fault(0) ahead of any", x.fault(0), -1);
        Due.is("fault(1) ahead of any", x.fault(1), -1);
        for (int t = 0; t < 4; t++) {
            Due.none(x, "read of a new tray", x.read(t, 0), 2);
        }
        Due.none(x, "no places", x.lamp(0), 1);
        Due.none(x, "an empty tape", x.orders(1, 0, 1), 1);
        Due.is("the first twenty bytes", x.feed(0, 0, 0, 0, 0), 20);
        Due.is("NONE", LampYear.NONE, -1);
        x.place(0);
        x.teacher(1, 0);
        x.lamp(0);
        x.note(0, 0, 0, 0, 59, 59);
        Due.is(x, "as of 59", x.lit(0, 0), 0);
    }

    private static void statusOfLatest() {
        LampYear x = new LampYear();
        Due.none(x, "place(9)", x.place(9), 1);
        Due.is("status again", x.status(), 1);
        x.feed(1, 2, 3, 4, 5);
        Due.is("feed has none", x.status(), 1);
        x.fault(0);
        Due.is("fault has none", x.status(), 1);
        Due.is(x, "place(3)", x.place(3), 0);
        LampYear y = new LampYear();
        Due.none(y, "another object is not touched", y.place(4), 1);
        Due.is("nor this", x.status(), 0);
    }

    private static void layTrays() {
        LampYear x = new LampYear();
        Due.yes(x, "tray(0, 0, 0)", x.tray(0, 0, 0));
        Due.none(x, "an empty tray has no place", x.read(0, 0), 3);
        Due.yes(x, "tray(3, 3, 60)", x.tray(3, 3, 60));
        for (int i = 0; i < 60; i++) {
            Due.is(x, "read(3, i)", x.read(3, i), 0);
        }
        Due.none(x, "read(3, 60)", x.read(3, 60), 3);
        x.write(3, 5, 77);
        Due.no(x, "tray(3, 3, 61)", x.tray(3, 3, 61), 1);
        Due.no(x, "tray(3, 4, 1)", x.tray(3, 4, 1), 1);
        Due.no(x, "tray(3, -1, 1)", x.tray(3, -1, 1), 1);
        Due.no(x, "tray(3, 0, -1)", x.tray(3, 0, -1), 1);
        Due.no(x, "tray(4, 0, 1)", x.tray(4, 0, 1), 1);
        Due.no(x, "tray(-1, 0, 1)", x.tray(-1, 0, 1), 1);
        Due.no(x, "tray(MIN, MIN, MIN)", x.tray(MIN, MIN, MIN), 1);
        Due.no(x, "tray(0, 0, MAX)", x.tray(0, 0, MAX), 1);
        Due.is(x, "a refused tray changes nothing", x.read(3, 5), 77);
        Due.yes(x, "laid anew", x.tray(3, 3, 6));
        Due.is(x, "0 again", x.read(3, 5), 0);
        Due.none(x, "and shorter", x.read(3, 6), 3);
        x.tray(3, 0, 60);
        Due.is(x, "0s behind, too", x.read(3, 59), 0);
    }

    private static void cutToSort() {
        LampYear x = new LampYear();
        for (int sort = 0; sort < 4; sort++) {
            x.tray(sort, sort, 2);
        }
        long v = 0x8123_4567_89AB_CDEFL;
        long[] cut = {(byte) v, (short) v, (int) v, v};
        for (int sort = 0; sort < 4; sort++) {
            Due.yes(x, "write", x.write(sort, 1, v));
            Due.is(x, "cut to sort " + sort, x.read(sort, 1), cut[sort]);
            Due.is(x, "the other one", x.read(sort, 0), 0);
            Due.yes(x, "write -1", x.write(sort, 0, -1));
            Due.is(x, "-1 with status 0", x.read(sort, 0), -1);
        }
        x.write(0, 0, 127);
        Due.is(x, "127", x.read(0, 0), 127);
        x.write(0, 0, 128);
        Due.is(x, "128", x.read(0, 0), -128);
        x.write(1, 0, 32768);
        Due.is(x, "32768", x.read(1, 0), -32768);
        x.write(2, 0, 1L << 31);
        Due.is(x, "2^31", x.read(2, 0), MIN);
        x.write(2, 0, 1L << 32);
        Due.is(x, "2^32", x.read(2, 0), 0);
    }

    private static void wrongPlaces() {
        LampYear x = new LampYear();
        Due.no(x, "write(4, 0, 1)", x.write(4, 0, 1), 1);
        Due.no(x, "write(-1, -1, 1)", x.write(-1, -1, 1), 1);
        Due.no(x, "write(0, -1, 1)", x.write(0, -1, 1), 2);
        Due.none(x, "read(4, 0)", x.read(4, 0), 1);
        Due.none(x, "read(MIN, 0)", x.read(MIN, 0), 1);
        Due.none(x, "read(0, -1) of a MISSING one", x.read(0, -1), 2);
        x.tray(0, 2, 3);
        Due.no(x, "write(0, 3, 1)", x.write(0, 3, 1), 3);
        Due.no(x, "write(0, -1, 1)", x.write(0, -1, 1), 3);
        Due.no(x, "write(0, MAX, 1)", x.write(0, MAX, 1), 3);
        Due.none(x, "read(0, 3)", x.read(0, 3), 3);
        Due.none(x, "read(0, MIN)", x.read(0, MIN), 3);
    }

    private static void row(LampYear x, int tray, long... want) {
        for (int i = 0; i < want.length; i++) {
            Due.is(x, "read(" + tray + ", " + i + ")", x.read(tray, i), want[i]);
        }
    }

    private static void pourOver() {
        LampYear x = new LampYear();
        x.tray(0, 1, 5);
        x.tray(1, 1, 4);
        for (int i = 0; i < 5; i++) {
            x.write(0, i, i + 1);
        }
        Due.yes(x, "pour", x.pour(0, 1, 1, 2, 2));
        row(x, 1, 0, 0, 2, 3);
        row(x, 0, 1, 2, 3, 4, 5);
        Due.yes(x, "onto itself, forward", x.pour(0, 0, 0, 1, 4));
        row(x, 0, 1, 1, 2, 3, 4);
        Due.yes(x, "onto itself, back", x.pour(0, 1, 0, 0, 4));
        row(x, 0, 1, 2, 3, 4, 4);
        Due.yes(x, "all of it", x.pour(0, 0, 0, 0, 5));
        Due.yes(x, "none of it", x.pour(0, 2, 1, 1, 0));
        Due.yes(x, "none, behind the last", x.pour(0, 5, 1, 4, 0));
        row(x, 1, 0, 0, 2, 3);
    }

    private static void pourWrong() {
        LampYear x = new LampYear();
        x.tray(0, 0, 3);
        x.tray(1, 1, 3);
        x.tray(2, 0, 2);
        x.write(0, 0, 9);
        Due.no(x, "below 0: place", x.pour(0, -1, 2, 0, 1), 1);
        Due.no(x, "below 0: at", x.pour(0, 0, 2, -1, 1), 1);
        Due.no(x, "below 0: many", x.pour(0, 0, 2, 0, -1), 1);
        Due.no(x, "no such TRAY", x.pour(4, 0, 2, 0, 1), 1);
        Due.no(x, "no such TRAY", x.pour(0, 0, -1, 0, 1), 1);
        Due.no(x, "1 ahead of 2", x.pour(3, -1, 0, 0, 1), 1);
        Due.no(x, "MISSING from", x.pour(3, 99, 1, 0, 1), 2);
        Due.no(x, "MISSING to", x.pour(0, 99, 3, 0, 1), 2);
        Due.no(x, "8 ahead of 3", x.pour(0, 99, 1, 0, 1), 8);
        Due.no(x, "too few there", x.pour(0, 0, 2, 0, 3), 3);
        Due.no(x, "too few here", x.pour(2, 1, 0, 0, 2), 3);
        Due.no(x, "behind the last", x.pour(0, 3, 2, 0, 1), 3);
        Due.no(x, "very many", x.pour(0, 1, 2, 1, MAX), 3);
        Due.no(x, "very far", x.pour(0, MAX, 2, MAX, MAX), 3);
        row(x, 2, 0, 0);
        row(x, 0, 9, 0, 0);
    }
}

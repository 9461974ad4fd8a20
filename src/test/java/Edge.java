import java.util.ArrayList;
import java.util.HashMap;
import java.util.List;
import java.util.Map;

/**
 * Edges: the last number that is taken and the first that is refused on both sides; and behind a refused call
 * everything that can be asked is asked of that object and of one that was not refused: all must be alike.
 */
final class Edge {
    interface Ask {
        long of(LampYear x);
    }

    interface AskWith {
        long of(LampYear x, int v);
    }

    interface Do {
        boolean of(LampYear x);
    }

    interface DoWith {
        boolean of(LampYear x, int v);
    }

    /** An object is used for 512 calls alone: so many for making it, these for asking. */
    private static final int ASKS = 200;
    /** The sheet that has fault() alone: orders() with STATUS 9 may change that. */
    private static final int FAULT_SHEET = 0;

    private static final List<List<Ask>> SHEETS = sheets();
    private static final Map<World.Make, List<long[]>> AS_MADE = new HashMap<>();

    private Edge() {
    }

    // ---- what is refused

    /** A call that gives NONE with a STATUS, and changes nothing else. */
    static void none(String what, World.Make make, Ask call, int why) {
        for (int sheet = 0; sheet < SHEETS.size(); sheet++) {
            LampYear x = make.make();
            Due.none(x, what, call.of(x), why);
            Due.is("status is told again: " + what, x.status(), why);
            same(what, x, make, sheet);
        }
    }

    /** A call that gives false with a STATUS, and changes nothing else. */
    static void no(String what, World.Make make, Do call, int why) {
        for (int sheet = 0; sheet < SHEETS.size(); sheet++) {
            LampYear x = make.make();
            Due.no(x, what, call.of(x), why);
            same(what, x, make, sheet);
        }
    }

    /** A text with a FAULT: the tape is empty then, fault() tells of it, and nothing else is changed. */
    static void fault(String text, int kind, int place) {
        for (int sheet = 0; sheet < SHEETS.size(); sheet++) {
            LampYear x = World.NO_TAPE.make();
            Due.none(x, "orders " + text, Due.orders(x, text, 0, 15), 9);
            Due.is("fault(0) of " + text, x.fault(0), kind);
            Due.is("fault(1) of " + text, x.fault(1), place);
            if (sheet != FAULT_SHEET) {
                same("orders " + text, x, World.NO_TAPE, sheet);
            }
        }
    }

    /** Two objects that must answer alike, though something that changes nothing was asked of the first. */
    static void alike(String what, World.Make asked, World.Make make) {
        for (int sheet = 0; sheet < SHEETS.size(); sheet++) {
            same(what, asked.make(), make, sheet);
        }
    }

    private static void same(String what, LampYear x, World.Make make, int sheet) {
        List<long[]> asMade = AS_MADE.computeIfAbsent(make, Edge::answersOf);
        long[] got = answers(x, sheet);
        long[] want = asMade.get(sheet);
        for (int i = 0; i < want.length; i++) {
            Due.is("behind the refused " + what + ": ask " + i + " of sheet " + sheet, got[i], want[i]);
        }
    }

    private static List<long[]> answersOf(World.Make make) {
        List<long[]> all = new ArrayList<>();
        for (int sheet = 0; sheet < SHEETS.size(); sheet++) {
            all.add(answers(make.make(), sheet));
        }
        return all;
    }

    private static long[] answers(LampYear x, int sheet) {
        List<Ask> asks = SHEETS.get(sheet);
        long[] got = new long[asks.size()];
        for (int i = 0; i < got.length; i++) {
            got[i] = asks.get(i).of(x);
        }
        return got;
    }

    // ---- both sides of a bound

    /** From least to most a number is taken (both tried), outside it is refused with STATUS 1. */
    static void ints(String what, World.Make make, int least, int most, AskWith call) {
        ints(what, make, least, most, 1, call);
    }

    static void ints(String what, World.Make make, int least, int most, int why, AskWith call) {
        for (int v : new int[] {least, most}) {
            LampYear x = make.make();
            call.of(x, v);
            Due.is(what + " " + v + " is taken: status", x.status(), 0);
        }
        for (int v : outside(least, most)) {
            none(what + " " + v, make, x -> call.of(x, v), why);
        }
    }

    static void yeses(String what, World.Make make, int least, int most, DoWith call) {
        yeses(what, make, least, most, 1, call);
    }

    static void yeses(String what, World.Make make, int least, int most, int why, DoWith call) {
        for (int v : new int[] {least, most}) {
            LampYear x = make.make();
            Due.yes(x, what + " " + v + " is taken", call.of(x, v));
        }
        for (int v : outside(least, most)) {
            no(what + " " + v, make, x -> call.of(x, v), why);
        }
    }

    /** Just outside, far outside, and such as would be inside if they were cut to 8, 16 or 31 bits. */
    private static List<Integer> outside(int least, int most) {
        int[] some = {least - 1, most + 1, Integer.MIN_VALUE, Integer.MAX_VALUE, least - 256, least + 256,
            most + 65_536, least + (1 << 30), most | Integer.MIN_VALUE};
        List<Integer> outside = new ArrayList<>();
        for (int v : some) {
            if ((v < least || v > most) && !outside.contains(v)) {
                outside.add(v);
            }
        }
        return outside;
    }

    // ---- all that can be asked

    private static List<List<Ask>> sheets() {
        List<List<Ask>> sheets = new ArrayList<>();
        sheets.add(List.of(x -> x.fault(0), x -> x.fault(1)));
        List<Ask> asks = new ArrayList<>();
        askTraysAndLand(asks);
        askOrders(asks);
        askYear(asks);
        askProofs(asks);
        for (int i = 0; i < asks.size(); i += ASKS) {
            sheets.add(asks.subList(i, Math.min(asks.size(), i + ASKS)));
        }
        sheets.add(nextOfTape());
        sheets.add(nextOfLand());
        sheets.add(nextOfNotes());
        sheets.add(nextOfProofs());
        return sheets;
    }

    private static void askTraysAndLand(List<Ask> asks) {
        for (int i = 0; i < 4 * 7; i++) {
            int tray = i / 7;
            int at = i % 7;
            asks.add(x -> x.read(tray, at));
        }
        for (int week : new int[] {0, 4, 49}) {
            for (int i = 0; i < 25; i++) {
                int from = i / 5;
                int to = i % 5;
                asks.add(x -> x.arrival(from, to, week));
            }
        }
        for (int week : new int[] {0, 4, 12, 41, 59}) {
            for (int i = 0; i < World.LEARNERS; i++) {
                int who = i;
                asks.add(x -> x.where(0, who, week));
                asks.add(x -> x.where(1, who, week));
            }
            for (int i = 0; i < World.LAMPS; i++) {
                int lamp = i;
                asks.add(x -> x.lit(lamp, week));
                asks.add(x -> x.near(lamp, week));
            }
        }
        for (int i = 0; i < 8; i++) {
            int k = i;
            asks.add(x -> x.sent(k));
        }
        asks.add(x -> x.count(20, 5, 2, 0));
        asks.add(x -> x.count(20, 5, 2, 1));
    }

    private static void askOrders(List<Ask> asks) {
        for (int week : new int[] {0, 7, 8, 59}) {
            for (int i = 0; i < 16; i++) {
                int shire = i / 4;
                int what = i % 4;
                asks.add(x -> x.rules(shire, week, what));
            }
        }
        for (int week : new int[] {0, 8}) {
            for (int i = 0; i < 40; i++) {
                int shire = i / 10;
                int rule = i % 10;
                asks.add(x -> x.struck(shire, week, rule));
            }
        }
    }

    private static void askYear(List<Ask> asks) {
        for (int i = 0; i < World.LEARNERS; i++) {
            int who = i;
            for (int week : new int[] {0, 4, 11, 12, 41}) {
                for (int j = 0; j < 3; j++) {
                    int what = j;
                    asks.add(x -> x.taught(who, week, what));
                }
                asks.add(x -> x.knows(who, week));
                asks.add(x -> x.gap(who, week));
            }
            for (int j = 0; j < 15; j++) {
                int lesson = j;
                asks.add(x -> x.hours(who, lesson, 9));
            }
            asks.add(x -> x.knows(who, 59));
            asks.add(x -> x.foretold(who, 30, 6, 0));
            asks.add(x -> x.foretold(who, 30, 3, 20));
        }
    }

    private static void askProofs(List<Ask> asks) {
        for (int i = 0; i < World.PROOFS + 1; i++) {
            int proof = i;
            for (int j = 0; j < 15; j++) {
                int k = j;
                asks.add(x -> x.owed(proof, k));
                if (k < 4) {
                    asks.add(x -> x.slips(proof, k));
                }
            }
        }
        for (int week : new int[] {2, 9, 20, 25, 59}) {
            for (int i = 0; i < World.LEARNERS; i++) {
                int who = i;
                asks.add(x -> x.reads(who, week));
                asks.add(x -> x.flag(who, week));
            }
        }
    }

    /** How often a call is taken till it is refused. */
    private static Ask till(Ask call) {
        return x -> {
            int taken = 0;
            while (taken < 200 && call.of(x) != LampYear.NONE) {
                taken++;
            }
            return taken * 10L + x.status();
        };
    }

    /** What the tape has, how many TEXTS can still come, and what RULES stand then. */
    private static List<Ask> nextOfTape() {
        List<Ask> asks = new ArrayList<>();
        asks.add(x -> x.feed(0x20202020, 0x20202020, 0x20202020, 0x20202020, 0x20202020));
        asks.add(x -> x.orders(60, 0, 15));
        asks.add(x -> x.orders(20, 0, 15));
        for (int i = 0; i < 4; i++) {
            int what = i;
            asks.add(x -> x.rules(1, 1, what));
            asks.add(x -> x.struck(1, 1, what));
        }
        asks.add(till(x -> x.orders(0, 0, 1)));
        asks.add(x -> x.knows(0, 9));
        return asks;
    }

    private static List<Ask> nextOfLand() {
        List<Ask> asks = new ArrayList<>();
        asks.add(x -> x.place(1));
        asks.add(till(x -> x.place(1)));
        for (int i = 0; i < 5; i++) {
            int a = i;
            asks.add(x -> x.way(a, 4, 1, 3, 4));
            asks.add(x -> x.way(2, a, 1, 3, 4));
        }
        asks.add(x -> x.learner(4, 50, 2));
        asks.add(till(x -> x.learner(0, 9, 0)));
        asks.add(x -> x.teacher(31, 1));
        asks.add(till(x -> x.teacher(1, 0)));
        asks.add(x -> x.lamp(3));
        asks.add(till(x -> x.lamp(0)));
        asks.add(x -> x.arrival(0, 4, 0));
        return asks;
    }

    private static List<Ask> nextOfNotes() {
        List<Ask> asks = new ArrayList<>();
        asks.add(x -> x.note(1, 0, 1, 20, 30, World.LATEST - 1) ? 1 : 0);
        asks.add(Edge::statusOf);
        asks.add(x -> x.note(1, 0, 1, 20, 30, World.LATEST) ? 1 : 0);
        asks.add(Edge::statusOf);
        asks.add(x -> x.where(1, 0, 25));
        asks.add(x -> x.asof(World.LATEST) ? 1 : 0);
        asks.add(x -> x.where(1, 0, 25));
        asks.add(x -> x.knows(0, 40));
        asks.add(till(x -> x.note(2, 1, LampYear.NONE, 0, 0, 59) ? 0 : LampYear.NONE));
        return asks;
    }

    private static long statusOf(LampYear x) {
        return x.status();
    }

    private static List<Ask> nextOfProofs() {
        List<Ask> asks = new ArrayList<>();
        asks.add(x -> x.proof(1, 1, 1, 1));
        asks.add(till(x -> x.proof(0, 59, 1, 2)));
        asks.add(x -> x.reads(1, 4));
        asks.add(x -> x.pour(2, 0, 2, 1, 5) ? 1 : 0);
        asks.add(x -> x.read(2, 5));
        asks.add(x -> x.write(1, 0, 3) ? 1 : 0);
        asks.add(x -> x.send(0, 1, 3, 0));
        asks.add(x -> x.sent(0));
        asks.add(x -> x.write(1, 0, 2) ? 1 : 0);
        asks.add(x -> x.send(0, 1, 3, 0));
        asks.add(x -> x.sent(0));
        asks.add(x -> x.sent(2));
        return asks;
    }
}

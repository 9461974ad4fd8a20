import java.lang.reflect.InvocationTargetException;
import java.lang.reflect.Method;
import java.lang.reflect.Modifier;
import java.util.ArrayList;
import java.util.Arrays;
import java.util.Comparator;
import java.util.List;
import java.util.Random;
import java.util.Set;

/** What holds for all calls: WEEKS at both ends, which STATUS there is, and that a refused call changes nothing else. */
public final class EdgeStatusTest {
    private static final int NONE = LampYear.NONE;
    private static final int LATEST = World.LATEST;

    private EdgeStatusTest() {
    }

    public static void main(String[] args) throws ReflectiveOperationException {
        worlds();
        weeksToAsk();
        weeksToTell();
        eachStatus();
        noSuchOnes();
        noughtElse();
        orderOfAsking();
        faultyOrders();
        nothingElse();
        askedAhead();
        asOfForthAndBack();
        Due.end();
    }

    /** The objects that the other tests begin with are what their names say. */
    private static void worlds() {
        Due.says("0 else.");
        LampYear x = World.RICH.make();
        Due.is(x, "its last call", x.sent(0), 2);
        Due.is(x, "PLACES", x.place(0), World.PLACES);
        Due.is(x, "WAYS", x.way(0, 2, 1, NONE, NONE), World.WAYS);
        Due.is(x, "LAMPS", x.lamp(0), World.LAMPS);
        Due.is(x, "TEACHERS", x.teacher(1, 0), World.TEACHERS);
        Due.is(x, "LEARNERS", x.learner(0, 9, 0), World.LEARNERS);
        Due.is(x, "PROOFS", x.proof(0, 0, 1, 1), World.PROOFS);
        Due.is("the tape", x.feed(0x20202020, 0x20202020, 0x20202020, 0x20202020, 0x20202020), World.TAPE + 20);
        Due.is("the latest FAULT", x.fault(0), 6);
        Due.is("its place", x.fault(1), 7);
        int notes = World.NOTES;
        while (x.note(2, 0, NONE, 0, 0, LATEST) && notes < 200) {
            notes++;
        }
        Due.is("NOTES at most", notes, 160);
        int texts = World.TEXTS;
        while (x.orders(0, 0, 1) != NONE && texts < 20) {
            texts++;
        }
        Due.is("TEXTS at most", texts, 5);
        full("PLACES", World.FULL_PLACES, y -> y.place(0));
        full("WAYS", World.FULL_WAYS, y -> y.way(14, 4, 1, NONE, NONE));
        full("LEARNERS", World.FULL_LEARNERS, y -> y.learner(0, 9, 0));
        full("TEACHERS", World.FULL_TEACHERS, y -> y.teacher(1, 0));
        full("LAMPS", World.FULL_LAMPS, y -> y.lamp(0));
        full("NOTES", World.FULL_NOTES, y -> y.note(2, 0, NONE, 0, 0, LATEST) ? 1 : NONE);
        full("TEXTS", World.FULL_TEXTS, y -> y.orders(0, 0, 1));
        full("PROOFS", World.FULL_PROOFS, y -> y.proof(0, 0, 1, 1));
        Due.is("FULL_TAPE", World.FULL_TAPE.make().feed(0, 0, 0, 0, 0), NONE);
        Due.is("NO_TAPE", World.NO_TAPE.make().feed(0, 0, 0, 0, 0), 20);
    }

    private static void full(String what, World.Make make, Edge.Ask oneMore) {
        LampYear x = make.make();
        Due.none(x, what, oneMore.of(x), 4);
    }

    private static void weeksToAsk() {
        Due.says("WEEKS are 0 to 59.");
        Edge.ints("arrival", World.RICH, 0, 59, (x, v) -> x.arrival(4, 4, v));
        Edge.ints("where: TEACHER", World.RICH, 0, 59, (x, v) -> x.where(0, 3, v));
        Edge.ints("where: LEARNER", World.RICH, 0, 59, (x, v) -> x.where(1, 0, v));
        Edge.ints("lit", World.RICH, 0, 59, (x, v) -> x.lit(0, v));
        Edge.ints("rules", World.RICH, 0, 59, (x, v) -> x.rules(0, v, 1));
        Edge.ints("struck", World.RICH, 0, 59, (x, v) -> x.struck(3, v, 4));
        Edge.ints("taught", World.RICH, 0, 59, (x, v) -> x.taught(0, v, 0));
        Edge.ints("knows", World.RICH, 0, 59, (x, v) -> x.knows(6, v));
        Edge.ints("hours", World.RICH, 0, 59, (x, v) -> x.hours(6, 14, v));
        Edge.ints("gap", World.RICH, 0, 59, (x, v) -> x.gap(6, v));
        Edge.ints("foretold", World.RICH, 0, 59, (x, v) -> x.foretold(6, v, 60, 60));
        Edge.ints("reads", World.RICH, 0, 59, (x, v) -> x.reads(6, v));
        Edge.ints("flag", World.RICH, 0, 59, (x, v) -> x.flag(4, v));
        // LAMP 1 is never LIT, LAMP 0 in the same PLACE always
        Edge.ints("near", () -> {
            LampYear x = World.school();
            x.lamp(0);
            return x;
        }, 0, 59, (x, v) -> x.near(1, v));
    }

    private static void weeksToTell() {
        Edge.ints("way: from", World.RICH, 0, 59, (x, v) -> x.way(0, 2, 1, v, 59));
        Edge.ints("way: to", World.RICH, 0, 59, (x, v) -> x.way(0, 2, 1, 0, v));
        Edge.yeses("note: from", World.RICH, 0, 59, (x, v) -> x.note(0, 0, 0, v, 59, LATEST));
        Edge.yeses("note: to", World.RICH, 0, 59, (x, v) -> x.note(0, 0, 0, 0, v, LATEST));
        Edge.yeses("note: known", () -> {
            LampYear x = World.places(1);
            x.learner(0, 9, 0);
            return x;
        }, 0, 59, (x, v) -> x.note(2, 0, NONE, 0, 0, v));
        Edge.yeses("asof", World.RICH, 0, 59, (x, v) -> x.asof(v));
        Edge.ints("orders", World.RICH, 0, 59, (x, v) -> x.orders(40, v, 1));
        Edge.ints("proof", World.RICH, 0, 59, (x, v) -> x.proof(0, v, 1, 1));
        // LAMP 0 and TEACHER 0 are in one PLACE, and it is nobody's LAMP
        Edge.ints("send", () -> {
            LampYear x = World.school();
            World.fill(x, 3, 0, 0);
            return x;
        }, 0, 59, (x, v) -> x.send(3, 3, 1, v));
    }

    private static void eachStatus() {
        Due.says("STATUS of a call is the first of these that holds: 1 a number that can't be (a word, a set, too); "
                + "no such TRAY, PLACE, LEARNER, TEACHER, LAMP, LESSON, PROOF, RULE.");
        Edge.none("1: a number", World.RICH, x -> x.place(4), 1);
        Edge.none("1: a word", World.RICH, x -> x.proof(0, 0, 0, 1), 1);
        Edge.none("1: a set", World.RICH, x -> x.teacher(32, 0), 1);
        Edge.none("1: a set", World.RICH, x -> x.orders(40, 0, 16), 1);
        Edge.no("1: a set", World.RICH, x -> x.lesson(3, 6, 8, 0), 1);
        Edge.no("1: a set", World.RICH, x -> x.lesson(3, 6, 0, 1 << 26), 1);
        Due.says("2 the TRAY is MISSING.");
        Edge.no("2", World.RICH, x -> x.write(3, 0, 0), 2);
        Edge.none("2", World.RICH, x -> x.read(3, 0), 2);
        Edge.no("2", World.RICH, x -> x.pour(3, 0, 3, 0, 0), 2);
        Edge.none("2", World.RICH, x -> x.send(3, 0, 1, 0), 2);
        Due.says("3 a place that the TRAY has not, or too few numbers.");
        Edge.no("3", World.RICH, x -> x.write(0, 4, 0), 3);
        Edge.none("3", World.RICH, x -> x.read(1, 3), 3);
        Edge.no("3", World.RICH, x -> x.pour(0, 1, 0, 0, 4), 3);
        Edge.none("3", World.RICH, x -> x.send(0, 1, 4, 0), 3);
        Due.says("4 one too many.");
        Edge.none("4", World.FULL_PLACES, x -> x.place(0), 4);
        Edge.no("4", World.FULL_NOTES, x -> x.note(3, 0, NONE, 0, 0, 59), 4);
        Due.says("5 a WEEK that is gone.");
        Edge.no("5", World.RICH, x -> x.note(3, 0, NONE, 0, 0, LATEST - 1), 5);
        Due.says("6 there is none such.");
        Edge.none("6", World.RICH, x -> x.arrival(0, 4, 0), 6);
        Edge.none("6", World.RICH, x -> x.lit(3, 0), 6);
        Edge.none("6", World.RICH, x -> x.sent(2), 6);
        Due.says("7 it is so already.");
        Edge.none("7", World.RICH, x -> x.way(1, 0, 1, NONE, NONE), 7);
        Edge.none("7", World.RICH, x -> x.near(0, 0), 7);
        Due.says("8 TRAYS are of unlike sorts.");
        Edge.no("8", World.RICH, x -> x.pour(0, 0, 1, 0, 1), 8);
        Due.says("9 a FAULT.");
        LampYear y = World.NO_TAPE.make();
        Due.none(y, "9", Due.orders(y, "?", 0, 15), 9);
    }

    private static void noSuchOnes() {
        Due.says("no such TRAY, PLACE, LEARNER, TEACHER, LAMP, LESSON, PROOF, RULE.");
        Edge.none("TRAY", World.RICH, x -> x.read(4, 0), 1);
        Edge.none("PLACE", World.RICH, x -> x.lamp(World.PLACES), 1);
        Edge.none("LEARNER", World.RICH, x -> x.knows(World.LEARNERS, 0), 1);
        Edge.none("TEACHER", World.RICH, x -> x.where(0, World.TEACHERS, 0), 1);
        Edge.none("LAMP", World.RICH, x -> x.lit(World.LAMPS, 0), 1);
        Edge.none("LESSON", World.RICH, x -> x.hours(0, 15, 0), 1);
        Edge.none("PROOF", World.RICH, x -> x.owed(World.PROOFS, 0), 1);
        Edge.none("RULE", World.RICH, x -> x.struck(0, 0, 5), 1);
    }

    private static void noughtElse() {
        Due.says("0 else.");
        // a call that is not refused has STATUS 0, whatever the one ahead had
        List<Edge.Ask> asks = List.of(x -> x.tray(3, 0, 1) ? 1 : 0, x -> x.write(0, 0, 1) ? 1 : 0, x -> x.read(0, 0),
                x -> x.pour(0, 0, 0, 1, 1) ? 1 : 0, x -> x.place(0), x -> x.way(0, 2, 1, 0, 0), x -> x.arrival(0, 1, 0),
                x -> x.learner(0, 9, 0), x -> x.teacher(1, 0), x -> x.lamp(0), x -> x.note(2, 0, NONE, 0, 0, 59) ? 1 : 0,
                x -> x.asof(0) ? 1 : 0, x -> x.where(0, 0, 0), x -> x.lit(0, 0), x -> x.orders(40, 0, 1), x -> x.rules(0, 0, 0),
                x -> x.struck(0, 0, 0), x -> x.taught(0, 0, 2), x -> x.lesson(0, 1, 0, 0) ? 1 : 0, x -> x.fade(1) ? 1 : 0,
                x -> x.knows(0, 0), x -> x.hours(0, 0, 0), x -> x.gap(0, 0), x -> x.foretold(0, 0, 0, 0), x -> x.proof(0, 0, 1, 1),
                x -> x.slips(0, 0), x -> x.owed(0, 0), x -> x.reads(0, 0), x -> x.flag(0, 0), x -> x.send(0, 1, 2, 3), x -> x.sent(0),
                x -> x.count(1, 1, 1, 1), x -> x.near(3, 0));
        for (int i = 0; i < asks.size(); i++) {
            LampYear x = World.RICH.make();
            Due.none(x, "refused", x.read(9, 0), 1);
            boolean taken = asks.get(i).of(x) != NONE;
            Due.is("call " + i + " is taken", taken, true);
            Due.is("call " + i + ": status", x.status(), 0);
        }
        Due.is("all calls that have a STATUS", asks.size(), 33);
    }

    private static void orderOfAsking() {
        Due.says("STATUS of a call is the first of these that holds");
        Edge.none("read: 1 ahead of 3", World.RICH, x -> x.read(-1, -1), 1);
        Edge.none("read: 2 ahead of 3", World.RICH, x -> x.read(3, -1), 2);
        Edge.none("place: 1 ahead of 4", World.FULL_PLACES, x -> x.place(4), 1);
        Edge.none("way: 1 ahead of 4", World.FULL_WAYS, x -> x.way(0, 0, 1, NONE, NONE), 1);
        Edge.none("way: 1 ahead of 7", World.RICH, x -> x.way(0, 1, 1, 1, 0), 1);
        Edge.none("way: 4 ahead of 7", World.FULL_WAYS, x -> x.way(0, 1, 1, NONE, NONE), 4);
        Edge.no("note: 1 ahead of 4", World.FULL_NOTES, x -> x.note(4, 0, 0, 0, 0, 59), 1);
        Edge.no("note: 1 ahead of 5", World.RICH, x -> x.note(0, 0, 0, 1, 0, 0), 1);
        Edge.no("note: 4 ahead of 5", World.FULL_NOTES, x -> x.note(0, 0, 0, 0, 0, 0), 4);
        Edge.none("arrival: 1 ahead of 6", World.RICH, x -> x.arrival(0, 4, 60), 1);
        Edge.none("where: 1 ahead of 6", World.RICH, x -> x.where(0, 0, 60), 1);
        Edge.none("taught: 1 ahead of 6", World.RICH, x -> x.taught(0, 10, 3), 1);
        Edge.none("sent: 1 ahead of 6", World.NEW, x -> x.sent(-1), 1);
        Edge.none("near: 1 ahead of 6 and 7", World.RICH, x -> x.near(0, 60), 1);
    }

    private static void faultyOrders() {
        Due.says("With another STATUS than 0 a call gives NONE, or false, and changes nothing else (but orders() with 9 the tape, "
                + "and what fault() tells).");
        // each kind of FAULT, behind RULES of the same TEXT that were read already
        Edge.fault("a:room 9;b:pass 9;c:flag 9;d:may 1=2;e:hours 0;?", 1, 47);
        Edge.fault("a:room 9;b:pass 9;c:flag 9;d:may 1=2;e:hours 0;z", 2, 48);
        Edge.fault("a:room 9;b strikes a:pass 9;a:flag 9;", 4, 28);
        Edge.fault("a strikes a:may 1=2;b:hours (((((((1)))))));", 5, 34);
        Edge.fault("x strikes b:room 9;y strikes a:room 0;", 6, 36);
        LampYear x = World.RICH.make();
        Due.none(x, "the tape has RULES behind the FAULT", x.orders(5, 0, 15), 9);
        Due.none(x, "they are gone, too", x.orders(1, 0, 15), 1);
        Due.is(x, "RULES as they were", x.rules(0, 0, 0), 5);
    }

    // ---- calls by chance

    private static final int[] POOL = {Integer.MIN_VALUE, -2, -1, 0, 1, 2, 3, 4, 5, 6, 7, 8, 9, 12, 14, 15, 16, 20, 26, 30, 31, 32, 40,
        58, 59, 60, 61, 99, 100, 256, 600, 65_536, Integer.MAX_VALUE};
    private static final Set<String> CHANGES = Set.of("tray", "write", "pour", "place", "way", "learner", "teacher", "lamp", "note",
            "asof", "orders", "lesson", "fade", "proof", "send");

    private static List<Method> face() {
        List<Method> face = new ArrayList<>();
        for (Method m : LampYear.class.getDeclaredMethods()) {
            if (Modifier.isPublic(m.getModifiers()) && !m.getName().equals("feed")) {
                face.add(m);
            }
        }
        face.sort(Comparator.comparing(Method::getName));
        return face;
    }

    private static Object[] some(Method m, Random dice) {
        Object[] args = new Object[m.getParameterCount()];
        for (int k = 0; k < args.length; k++) {
            int v = dice.nextInt(3) > 0 ? dice.nextInt(5) : POOL[dice.nextInt(POOL.length)];
            if (m.getParameterTypes()[k] == long.class) {
                args[k] = (long) v;
            } else {
                args[k] = v;
            }
        }
        return args;
    }

    /** Refused calls and calls that only ask, by chance: everything that can be asked is as it was. */
    private static void nothingElse() throws ReflectiveOperationException {
        Random dice = new Random(7);
        List<World.Make> worlds = List.of(World.RICH, World.NEW, World.FULL_WAYS, World.FULL_NOTES, World.FULL_TEXTS);
        for (Method m : face()) {
            for (int i = 0; i < 40; i++) {
                Object[] args = some(m, dice);
                World.Make make = worlds.get(i % 3 > 0 ? 0 : dice.nextInt(worlds.size()));
                LampYear x = make.make();
                m.invoke(x, args);
                boolean faulty = m.getName().equals("orders") && x.status() == 9;
                if ((!CHANGES.contains(m.getName()) || x.status() != 0) && !faulty) {
                    Edge.alike(m.getName() + Arrays.toString(args), () -> called(make.make(), m, args), make);
                }
            }
        }
    }

    private static LampYear called(LampYear x, Method m, Object[] args) {
        try {
            m.invoke(x, args);
        } catch (IllegalAccessException | InvocationTargetException e) {
            throw new IllegalStateException(e);
        }
        return x;
    }

    /** RICH, of which much was asked already: of the last WEEK, and then of some ahead of it. */
    private static LampYear asked() {
        LampYear x = World.RICH.make();
        for (int week : new int[] {59, 12, 8, 0}) {
            for (int who = 0; who < World.LEARNERS; who++) {
                x.taught(who, week, 2);
                x.where(1, who, week);
            }
            for (int shire = 0; shire < 4; shire++) {
                x.rules(shire, week, 0);
            }
            x.near(3, week);
        }
        return x;
    }

    /** What is told behind such asking counts for all WEEKS, as if nothing had been asked. */
    private static void askedAhead() {
        Due.says("By WEEKS from 0 on");
        Edge.alike("asking", EdgeStatusTest::asked, World.RICH);
        Random dice = new Random(8);
        List<Told> told = new ArrayList<>(List.of(
                x -> x.way(0, 2, 1, 0, 59), x -> x.way(1, 4, 1, 0, 0), x -> x.way(2, 4, 9, NONE, NONE), x -> x.learner(0, 20, 0),
                x -> x.note(0, 1, 0, 0, 59, LATEST - 1), x -> x.note(2, 0, NONE, 0, 0, LATEST), x -> x.note(1, 4, 1, 0, 0, LATEST),
                x -> x.asof(LATEST), x -> x.asof(59), x -> x.asof(0), x -> x.asof(1), x -> x.asof(4), x -> x.asof(3),
                x -> x.orders(40, 0, 15), x -> x.orders(40, 8, 1), x -> x.orders(40, 59, 15), x -> x.fade(1), x -> x.fade(20),
                x -> x.lesson(0, 1, 0, 1), x -> x.lesson(0, 60, 0, 1), x -> x.lesson(14, 1, 0, 1 << 25),
                x -> x.lesson(4, 9, 15, 0), x -> x.proof(3, 0, 1, 1), x -> x.lamp(2), x -> x.teacher(31, 0), x -> x.place(0)));
        for (Method m : face()) {
            for (int i = 0; CHANGES.contains(m.getName()) && i < 12; i++) {
                Object[] args = some(m, dice);
                told.add(x -> called(x, m, args));
            }
        }
        for (int i = 0; i < told.size(); i++) {
            Told t = told.get(i);
            World.Make make = () -> telling(World.RICH.make(), t);
            Edge.alike("telling " + i, () -> telling(asked(), t), make);
        }
    }

    private interface Told {
        void to(LampYear x);
    }

    private static LampYear telling(LampYear x, Told t) {
        t.to(x);
        return x;
    }

    /** AS OF goes over each NOTE and back, with the last WEEK asked in between; the first NOTE of all is among them. */
    private static void asOfForthAndBack() {
        Due.says("AS OF a WEEK (59 at first) all is told by the NOTES then KNOWN.");
        int[] order = {59, 0, 1, 2, 3, 4, 59, 4, 3, 2, 1, 0, 59, 3, 1, 4, 2, 0, 3, 0, 4, 1, 59};
        LampYear x = noted();
        for (int week : order) {
            LampYear fresh = noted();
            x.asof(week);
            fresh.asof(week);
            for (int w : new int[] {59, 5, 0}) {
                Due.is(x, "as of " + week + ": behind WEEK " + w, x.knows(0, w), fresh.knows(0, w));
                Due.is(x, "as of " + week + ": GAPS behind WEEK " + w, x.gap(0, w), fresh.gap(0, w));
            }
        }
    }

    private static LampYear noted() {
        LampYear x = World.places(1);
        x.lamp(0);
        x.teacher(1, 0);
        x.learner(0, 9, 0);
        x.note(0, 0, 0, 0, 59, 1);
        x.note(1, 0, 0, 0, 59, 2);
        x.note(2, 0, NONE, 0, 0, 3);
        x.note(3, 0, NONE, 4, 20, 4);
        return x;
    }
}

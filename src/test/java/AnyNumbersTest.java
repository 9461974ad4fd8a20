import java.lang.reflect.InvocationTargetException;
import java.lang.reflect.Method;
import java.lang.reflect.Modifier;
import java.util.ArrayList;
import java.util.Arrays;
import java.util.HashMap;
import java.util.List;
import java.util.Map;
import java.util.Random;
import java.util.Set;
import java.util.TreeSet;

/**
 * Lives of objects up to their 512th call, with any numbers at all: nothing is ever thrown, a call has no other STATUS than
 * those that its promise tells, and gives NONE or false with each but 0.
 */
public final class AnyNumbersTest {
    private static final int LIVES = Integer.getInteger("lives", 1500);
    private static final int CALLS = 512;
    /** What the promises tell in brackets; each must be seen at least once. */
    private static final String STATUSES = "tray 01, write 0123, read 0123, pour 01238, place 014, way 0147, arrival 016, "
            + "learner 014, teacher 014, lamp 014, note 0145, asof 01, where 016, lit 016, orders 0149, rules 01, struck 01, "
            + "taught 016, lesson 01, fade 01, knows 01, hours 01, gap 01, foretold 01, proof 014, slips 01, owed 01, reads 01, "
            + "flag 01, send 01236, sent 016, count 01, near 0167";
    private static final Set<String> WITHOUT_STATUS = Set.of("status", "feed", "fault");
    private static final int[] FAR = {Integer.MIN_VALUE, Integer.MIN_VALUE + 1, -61, -2, -1, 0, 1, 15, 16, 31, 59, 60, 61, 600,
        1 << 26, (1 << 26) - 1, Integer.MAX_VALUE - 1, Integer.MAX_VALUE};
    private static final World.Make[] BEGINNINGS = {World.NEW, World.NEW, World.RICH, World.NO_TAPE, World.FULL_PLACES,
        World.FULL_WAYS, World.FULL_LEARNERS, World.FULL_TEACHERS, World.FULL_LAMPS, World.FULL_NOTES, World.FULL_TEXTS,
        World.FULL_TAPE, World.FULL_PROOFS};
    /** The making of the fullest one takes so many calls. */
    private static final int MAKING = 260;

    private static final Map<String, TreeSet<Character>> seen = new HashMap<>();
    private final Random dice;
    private final LampYear x;
    private final int beginning;

    private AnyNumbersTest(int life) {
        dice = new Random(life * 104729L + 7);
        beginning = life % BEGINNINGS.length;
        x = BEGINNINGS[beginning].make();
    }

    public static void main(String[] args) throws IllegalAccessException {
        List<Method> face = new ArrayList<>();
        for (Method m : LampYear.class.getDeclaredMethods()) {
            if (Modifier.isPublic(m.getModifiers())) {
                face.add(m);
            }
        }
        face.sort((a, b) -> a.getName().compareTo(b.getName()));
        for (int life = 0; life < LIVES; life++) {
            new AnyNumbersTest(life).live(face);
        }
        statuses();
        Due.end();
    }

    private void live(List<Method> face) throws IllegalAccessException {
        boolean isNew = BEGINNINGS[beginning] == World.NEW;
        // ahead of each call and behind it the STATUS is asked for, too
        for (int left = (CALLS - (isNew ? 0 : MAKING)) / 3; left > 0; left--) {
            if (isNew && dice.nextInt(6) == 0) {
                x.place(dice.nextInt(4));
            } else if (dice.nextInt(20) == 0) {
                x.feed(0x613a726f, 0x6f6d2034, 0x3b203b20, 0x20202020, dice.nextInt());
            } else {
                call(face.get(dice.nextInt(face.size())));
            }
        }
    }

    private void call(Method m) throws IllegalAccessException {
        Object[] with = new Object[m.getParameterCount()];
        int wild = dice.nextInt(3);
        for (int i = 0; i < with.length; i++) {
            boolean isLong = m.getParameterTypes()[i] == long.class;
            if (isLong) {
                with[i] = dice.nextInt(4) == 0 ? dice.nextLong() : dice.nextInt(3) == 0 ? (long) some(wild) : word();
            } else {
                with[i] = some(wild);
            }
        }
        String told = m.getName() + Arrays.toString(with);
        int ahead = x.status();
        try {
            look(m.getName(), told, m.invoke(x, with), ahead);
        } catch (InvocationTargetException thrown) {
            Due.is(told + " threw " + thrown.getCause(), 1, 0);
        }
    }

    private long word() {
        long v = 0;
        for (int i = dice.nextInt(9); i >= 0; i--) {
            v = v << 5 | 1 + dice.nextInt(27);
        }
        return v;
    }

    private int some(int wild) {
        int r = dice.nextInt(wild == 0 ? 40 : wild == 1 ? 12 : 3);
        if (r == 0) {
            return dice.nextInt();
        }
        return r == 1 ? FAR[dice.nextInt(FAR.length)] : r < 8 ? dice.nextInt(4) : dice.nextInt(60);
    }

    private void look(String name, String told, Object answer, int ahead) {
        int status = x.status();
        if (WITHOUT_STATUS.contains(name)) {
            Due.is(told + ": has no STATUS", status, ahead);
            return;
        }
        seen.computeIfAbsent(name, n -> new TreeSet<>()).add((char) ('0' + status));
        if (answer instanceof Boolean did) {
            Due.is(told + " with STATUS " + status, did, status == 0);
        } else if (status != 0) {
            Due.is(told + " with STATUS " + status, ((Number) answer).longValue(), LampYear.NONE);
        } else if (!name.equals("read")) {
            Due.is(told + " is NONE with STATUS 0", ((Number) answer).longValue() == LampYear.NONE, false);
        }
    }

    private static void statuses() {
        for (String line : STATUSES.split(", ")) {
            String[] told = line.split(" ");
            StringBuilder got = new StringBuilder();
            seen.getOrDefault(told[0], new TreeSet<>()).forEach(got::append);
            if (!got.toString().equals(told[1])) {
                System.out.println(told[0] + " had STATUS " + got + ", its promise tells " + told[1]);
            }
            Due.is("the STATUSES of " + told[0], got.toString().equals(told[1]), true);
        }
        Due.is("calls that have a STATUS", seen.size(), STATUSES.split(", ").length);
    }
}

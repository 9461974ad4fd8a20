import java.lang.reflect.Array;
import java.lang.reflect.Field;
import java.lang.reflect.Modifier;
import java.util.ArrayDeque;
import java.util.Collections;
import java.util.Deque;
import java.util.IdentityHashMap;
import java.util.Set;

/** What an object holds: everything is made with it, and no call makes more. */
public final class RoomTest {
    /** All calls of a run live in a room of 600,000 objects and 7.3 million fields and elements; an object takes a part of it. */
    private static final int MOST_OBJECTS = 120;
    private static final int MOST_ELEMENTS = 60_000;

    private int objects = 0;
    private int elements = 0;
    private final Set<Object> seen = Collections.newSetFromMap(new IdentityHashMap<>());
    private final Deque<Object> waiting = new ArrayDeque<>();

    private RoomTest() {
    }

    public static void main(String[] args) throws IllegalAccessException {
        RoomTest fresh = of(new LampYear());
        System.out.println("an object is " + fresh.objects + " objects and arrays with " + fresh.elements + " fields and elements");
        Due.is("few objects", fresh.objects <= MOST_OBJECTS, true);
        Due.is("few fields and elements", fresh.elements <= MOST_ELEMENTS, true);
        World.Make[] made = {World.RICH, World.FULL_PLACES, World.FULL_WAYS, World.FULL_LEARNERS, World.FULL_TEACHERS,
            World.FULL_LAMPS, World.FULL_NOTES, World.FULL_TEXTS, World.FULL_TAPE, World.FULL_PROOFS};
        for (World.Make make : made) {
            LampYear x = make.make();
            askAll(x);
            RoomTest full = of(x);
            Due.is("objects of a full one", full.objects, fresh.objects);
            Due.is("fields and elements of a full one", full.elements, fresh.elements);
        }
        Due.end();
    }

    private static void askAll(LampYear x) {
        x.knows(0, 59);
        x.taught(0, 59, 2);
        x.foretold(0, 59, 60, 60);
        x.slips(0, 1);
        x.flag(0, 59);
        x.send(0, 1, 2, 0);
        x.near(3, 0);
        x.count(60, 30, 15, 1);
        x.rules(3, 59, 0);
    }

    private static RoomTest of(LampYear x) throws IllegalAccessException {
        RoomTest room = new RoomTest();
        room.meet(x);
        while (!room.waiting.isEmpty()) {
            room.look(room.waiting.pop());
        }
        return room;
    }

    private void meet(Object o) {
        if (o != null && seen.add(o)) {
            objects++;
            waiting.push(o);
        }
    }

    private void look(Object o) throws IllegalAccessException {
        if (o.getClass().isArray()) {
            int length = Array.getLength(o);
            elements += length;
            boolean ofObjects = !o.getClass().getComponentType().isPrimitive();
            for (int i = 0; i < length && ofObjects; i++) {
                meet(Array.get(o, i));
            }
            return;
        }
        for (Field f : o.getClass().getDeclaredFields()) {
            if (!Modifier.isStatic(f.getModifiers())) {
                elements++;
                f.setAccessible(true);
                if (!f.getType().isPrimitive()) {
                    meet(f.get(o));
                }
            }
        }
    }
}

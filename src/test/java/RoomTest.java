import java.lang.reflect.Array;
import java.lang.reflect.Field;
import java.lang.reflect.Modifier;
import java.util.ArrayDeque;
import java.util.Collections;
import java.util.Deque;
import java.util.IdentityHashMap;
import java.util.Set;

/** All calls of one run live in one room: what an object holds, counted over all that can be reached from it. */
public final class RoomTest {
    private static final int OBJECTS_OF_ROOM = 600000;
    private static final int FIELDS_OF_ROOM = 7300000;
    private static final int CALLS = 512;

    private final Set<Object> known = Collections.newSetFromMap(new IdentityHashMap<>());
    private final Deque<Object> open = new ArrayDeque<>();
    private int fields;

    public static void main(String[] args) throws IllegalAccessException {
        RoomTest fresh = of(new BuoyTender());
        RoomTest asked = of(afterRound());
        RoomTest full = of(afterAllCalls());
        System.out.println("objects, fields and elements: " + fresh + " when new, " + asked + " behind a round, " + full
            + " behind some 500 calls");
        Checks.yes("a run of constructors alone", fresh.fits(CALLS));
        Checks.yes("a run of constructors and rounds in turn", asked.fits(CALLS / 2));
        // A mark is six objects: itself, a sighting, a chain, a rhythm, and a row each for sighting and rhythm.
        Checks.due("512 calls add ten marks and nothing else", full.known.size() - asked.known.size(), 60);
        // 22 calls at least lie between one object and the next that has ten marks with jobs and a round.
        Checks.yes("a run of full objects", full.fits(CALLS / 22));
        Checks.finish();
    }

    private static BuoyTender afterRound() {
        BuoyTender t = new BuoyTender();
        t.round(0);
        return t;
    }

    /** Some 500 calls: a full object, six marks more, and fifty times eight calls that change much of it. */
    private static BuoyTender afterAllCalls() {
        BuoyTender t = Looks.full();
        for (int i = 4; i < 10; i++) {
            t.mark(i, i, i);
        }
        for (int i = 0; i < 50; i++) {
            t.job(i % 10, i, i, 1 + i);
            t.bearing(i % 10, (i + 1) % 10, 1, i, -i, 1);
            t.sounding(i % 10, 0, 200);
            t.light(i % 10, 2, 11 + i % 9);
            t.warn(i % 10, 1 + i % 9);
            t.cancel(i);
            t.round(100);
            t.lies(i % 10, 0);
        }
        return t;
    }

    private static RoomTest of(Object first) throws IllegalAccessException {
        RoomTest room = new RoomTest();
        room.meet(first);
        while (!room.open.isEmpty()) {
            room.lookInto(room.open.remove());
        }
        return room;
    }

    private boolean fits(int times) {
        return (long) known.size() * times <= OBJECTS_OF_ROOM && (long) fields * times <= FIELDS_OF_ROOM;
    }

    private void meet(Object o) {
        if (o != null && known.add(o)) {
            open.add(o);
        }
    }

    private void lookInto(Object o) throws IllegalAccessException {
        if (o.getClass().isArray()) {
            int length = Array.getLength(o);
            fields += length;
            for (int i = 0; i < length && !o.getClass().getComponentType().isPrimitive(); i++) {
                meet(Array.get(o, i));
            }
            return;
        }
        for (Field f : o.getClass().getDeclaredFields()) {
            if (!Modifier.isStatic(f.getModifiers())) {
                fields++;
                f.setAccessible(true);
                if (!f.getType().isPrimitive()) {
                    meet(f.get(o));
                }
            }
        }
    }

    @Override
    public String toString() {
        return known.size() + " and " + fields;
    }
}

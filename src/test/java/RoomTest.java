import java.lang.reflect.Array;
import java.lang.reflect.Field;
import java.lang.reflect.Modifier;
import java.util.ArrayDeque;
import java.util.Collections;
import java.util.Deque;
import java.util.IdentityHashMap;
import java.util.Set;

/** How much room an object takes: all calls of a run live in one, which is bounded. */
public final class RoomTest {
    private static final Check c = new Check("RoomTest");

    private final Set<Object> objects = Collections.newSetFromMap(new IdentityHashMap<>());
    private final Deque<Object> unseen = new ArrayDeque<>();
    private long slots;

    public static void main(String[] args) throws IllegalAccessException {
        BloodBank x = new BloodBank();
        RoomTest first = new RoomTest();
        first.walk(x);
        c.due(first.objects.size() <= 450, "objects and arrays: " + first.objects.size());
        c.due(first.slots <= 11_000, "fields and elements: " + first.slots);

        fill(x);
        sameRoom(first, x);
        x.clear();
        fill(x);
        sameRoom(first, x);
        c.end();
    }

    /** As much of everything as there can be, in 215 calls. */
    private static void fill(BloodBank x) {
        for (int i = 0; i < 12; i++) {
            x.rack(0, 6);
            x.row(i, 20);
            x.probe(i, true);
            x.cold(i, 500);
        }
        for (int i = 0; i < 40; i++) {
            x.patient(0, 0);
        }
        for (int i = 0; i < 40; i++) {
            x.part(x.take(0, 0, 1, 0, 0, 100));
        }
        for (int i = 2; i < 14; i += 4) {
            x.tray(i);
        }
        x.pool(2);
        for (int i = 0; i < 40; i++) {
            x.take(0, 0, 1, 0, 0, 100);
        }
        x.recall(1);
        x.minute();
        c.due(200, x.count(1));
    }

    private static void sameRoom(RoomTest first, BloodBank x) throws IllegalAccessException {
        RoomTest now = new RoomTest();
        now.walk(x);
        c.due(first.slots, now.slots);
        c.due(first.objects.size(), now.objects.size());
        c.due(first.objects.containsAll(now.objects), "the objects are those that were made at first");
    }

    private void walk(Object start) throws IllegalAccessException {
        meet(start);
        while (!unseen.isEmpty()) {
            Object o = unseen.pop();
            if (o.getClass().isArray()) {
                walkArray(o);
            } else {
                walkFields(o);
            }
        }
    }

    private void meet(Object o) {
        if (o != null && objects.add(o)) {
            unseen.push(o);
        }
    }

    private void walkArray(Object array) {
        int length = Array.getLength(array);
        slots += length;
        for (int i = 0; i < length && !array.getClass().getComponentType().isPrimitive(); i++) {
            meet(Array.get(array, i));
        }
    }

    private void walkFields(Object o) throws IllegalAccessException {
        for (Field f : o.getClass().getDeclaredFields()) {
            if (!Modifier.isStatic(f.getModifiers())) {
                slots++;
                if (!f.getType().isPrimitive()) {
                    f.setAccessible(true);
                    meet(f.get(o));
                }
            }
        }
    }
}

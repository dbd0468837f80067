import java.lang.reflect.Array;
import java.lang.reflect.Field;
import java.lang.reflect.Modifier;
import java.util.ArrayDeque;
import java.util.Deque;
import java.util.IdentityHashMap;
import java.util.Map;

/** What an object holds, with all that can be reached from it. */
final class Room {
    private final Map<Object, Object> seen = new IdentityHashMap<>();
    private final Deque<Object> open = new ArrayDeque<>();
    private long elements = 0;

    /** How many objects and arrays, and how many fields and elements in all. */
    static long[] held(Object root) throws IllegalAccessException {
        Room room = new Room();
        room.reach(root);
        while (!room.open.isEmpty()) {
            room.lookInto(room.open.remove());
        }
        return new long[] {room.seen.size(), room.elements};
    }

    private void lookInto(Object one) throws IllegalAccessException {
        Class<?> c = one.getClass();
        if (!c.isArray()) {
            lookAtFields(one);
            return;
        }
        elements += Array.getLength(one);
        for (int i = 0; i < Array.getLength(one) && !c.getComponentType().isPrimitive(); i++) {
            reach(Array.get(one, i));
        }
    }

    private void lookAtFields(Object one) throws IllegalAccessException {
        for (Field f : one.getClass().getDeclaredFields()) {
            if (!Modifier.isStatic(f.getModifiers())) {
                elements++;
                f.setAccessible(true);
                if (!f.getType().isPrimitive()) {
                    reach(f.get(one));
                }
            }
        }
    }

    private void reach(Object one) {
        if (one != null && seen.put(one, one) == null) {
            open.add(one);
        }
    }
}

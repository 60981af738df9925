import java.lang.reflect.Array;
import java.lang.reflect.Field;
import java.lang.reflect.Modifier;
import java.util.ArrayDeque;
import java.util.Collections;
import java.util.IdentityHashMap;
import java.util.Set;

/** Counts the fields and elements that an object has made so far, those that it threw away included. */
final class Room {
    /** What all calls of one run may make. */
    static final long MOST_ELEMENTS = 7300000;

    private final Set<Object> seen = Collections.newSetFromMap(new IdentityHashMap<>());
    private final ArrayDeque<Object> open = new ArrayDeque<>();
    private long elements;

    private Room() {
    }

    static long made(ObservantYard x) {
        Room room = new Room();
        room.find(x);
        while (!room.open.isEmpty()) {
            room.count(room.open.poll());
        }
        return room.elements;
    }

    private void find(Object each) {
        if (each != null && seen.add(each)) {
            open.add(each);
        }
    }

    private void count(Object each) {
        if (each.getClass().isArray()) {
            elements += Array.getLength(each);
            if (each instanceof Object[] row) {
                for (Object inside : row) {
                    find(inside);
                }
            }
            return;
        }
        for (Field field : each.getClass().getDeclaredFields()) {
            if (!Modifier.isStatic(field.getModifiers())) {
                elements++;
                if (!field.getType().isPrimitive()) {
                    find(valueOf(field, each));
                }
            }
        }
    }

    /** The arrays of a table are thrown away for others that are eight times as long. */
    private Object valueOf(Field field, Object each) {
        try {
            field.setAccessible(true);
            Object value = field.get(each);
            if (value != null && value.getClass().isArray() && each.getClass().getName().endsWith("SetTable")) {
                for (long length = Array.getLength(value) / 8; length >= 256; length /= 8) {
                    elements += length;
                }
            }
            return value;
        } catch (IllegalAccessException e) {
            throw new IllegalStateException(e);
        }
    }
}

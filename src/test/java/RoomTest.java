import java.lang.reflect.Array;
import java.lang.reflect.Field;
import java.lang.reflect.Modifier;
import java.util.ArrayDeque;
import java.util.Collections;
import java.util.Deque;
import java.util.IdentityHashMap;
import java.util.Set;

/**
 * A bench takes little room and takes no more as it is used: all calls of one run share 600,000 objects and
 * 7.3 million fields and elements. LanguageTest sees to it that nothing is made but by constructors.
 */
public final class RoomTest {
    private static final int MOST_OBJECTS = 50;
    private static final int MOST_FIELDS = 2000;

    private int objects;
    private int fields;

    public static void main(String[] args) throws IllegalAccessException {
        Due due = new Due();
        RollBench bench = new RollBench();
        RoomTest made = roomOf(bench);
        due.holds("a new bench is few objects, not " + made.objects, made.objects <= MOST_OBJECTS);
        due.holds("a new bench has few fields and elements, not " + made.fields, made.fields <= MOST_FIELDS);
        for (int lane = 0; lane < Benches.LANES; lane++) {
            for (int n = 0; n <= 60; n++) {
                bench.mount(lane, n);
                bench.rule(lane, n % 17, 16 - n % 17);
                bench.lay(lane, 0, 0);
                bench.strip(lane);
            }
            bench.mount(lane, 60);
            bench.rule(lane, 16, 16);
        }
        RoomTest used = roomOf(bench);
        due.is("how many objects a used bench is", used.objects, made.objects);
        due.is("how many fields and elements a used bench has", used.fields, made.fields);
        due.end();
    }

    private static RoomTest roomOf(Object first) throws IllegalAccessException {
        RoomTest room = new RoomTest();
        Set<Object> seen = Collections.newSetFromMap(new IdentityHashMap<>());
        Deque<Object> open = new ArrayDeque<>();
        open.add(first);
        while (!open.isEmpty()) {
            Object next = open.remove();
            if (seen.add(next)) {
                room.objects++;
                if (next.getClass().isArray()) {
                    room.countElements(next, open);
                } else {
                    room.countFields(next, open);
                }
            }
        }
        return room;
    }

    private void countElements(Object array, Deque<Object> open) {
        int length = Array.getLength(array);
        fields += length;
        boolean ofObjects = !array.getClass().getComponentType().isPrimitive();
        for (int i = 0; ofObjects && i < length; i++) {
            keep(Array.get(array, i), open);
        }
    }

    private void countFields(Object object, Deque<Object> open) throws IllegalAccessException {
        for (Field field : object.getClass().getDeclaredFields()) {
            if (Modifier.isStatic(field.getModifiers())) {
                continue;
            }
            fields++;
            if (!field.getType().isPrimitive()) {
                field.setAccessible(true);
                keep(field.get(object), open);
            }
        }
    }

    private static void keep(Object object, Deque<Object> open) {
        if (object != null) {
            open.add(object);
        }
    }
}

import java.lang.reflect.Array;
import java.lang.reflect.Field;
import java.lang.reflect.Modifier;
import java.util.ArrayDeque;
import java.util.Collections;
import java.util.Deque;
import java.util.IdentityHashMap;
import java.util.Set;

/** An object of the largest size stays small, and calls make nothing that is kept. */
public final class RoomTest {
    private static final int MOST_FIELDS_AND_ELEMENTS = 4000;
    private static final int MOST_OBJECTS = 100;

    private int objects = 0;
    private int parts = 0;
    private final Set<Object> seen = Collections.newSetFromMap(new IdentityHashMap<>());

    public static void main(String[] args) throws IllegalAccessException {
        CollectedGroup x = new CollectedGroup(0x2222222);
        RoomTest before = new RoomTest();
        before.weigh(x);
        use(x);
        RoomTest after = new RoomTest();
        after.weigh(x);
        System.out.println(before.objects + " objects, " + before.parts + " fields and elements");
        Check.due("few objects", before.objects <= MOST_OBJECTS, true);
        Check.due("few fields and elements", before.parts <= MOST_FIELDS_AND_ELEMENTS, true);
        Check.due("objects after use", after.objects, before.objects);
        Check.due("fields and elements after use", after.parts, before.parts);
        Check.end();
    }

    private static void use(CollectedGroup x) {
        x.fix();
        for (int k = 0; k < 60; k++) {
            x.join(k % 4, k);
            x.spread(k % 4);
            x.commute(0, 1, 2);
            x.derived(k);
            x.lower(k);
            x.classes();
            x.kin(k);
            x.head(k);
        }
    }

    private void weigh(Object root) throws IllegalAccessException {
        Deque<Object> open = new ArrayDeque<>();
        open.add(root);
        seen.add(root);
        while (!open.isEmpty()) {
            Object next = open.poll();
            objects++;
            if (next.getClass().isArray()) {
                weighArray(next, open);
            } else {
                weighFields(next, open);
            }
        }
    }

    private void weighArray(Object array, Deque<Object> open) {
        int length = Array.getLength(array);
        parts += length;
        for (int k = 0; k < length && !array.getClass().getComponentType().isPrimitive(); k++) {
            meet(Array.get(array, k), open);
        }
    }

    private void weighFields(Object object, Deque<Object> open) throws IllegalAccessException {
        for (Field field : object.getClass().getDeclaredFields()) {
            if (!Modifier.isStatic(field.getModifiers())) {
                parts++;
                field.setAccessible(true);
                if (!field.getType().isPrimitive()) {
                    meet(field.get(object), open);
                }
            }
        }
    }

    private void meet(Object object, Deque<Object> open) {
        if (object != null && seen.add(object)) {
            open.add(object);
        }
    }
}

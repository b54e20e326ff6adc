import com.sun.management.ThreadMXBean;
import java.lang.management.ManagementFactory;
import java.lang.reflect.Array;
import java.lang.reflect.Field;
import java.lang.reflect.Modifier;
import java.util.ArrayDeque;
import java.util.Collections;
import java.util.Deque;
import java.util.IdentityHashMap;
import java.util.Set;

/**
 * All calls of one run live in one room, so a machine is small and its calls make no objects; only
 * a call that throws makes one, its exception.
 */
public final class RoomTest {
    private static final int CALLS = 512;
    private static final int MOST_OBJECTS = 200;
    private static final int MOST_FIELDS = 1000;

    /** What the asking itself may cost; one int array a call would already be ten times this. */
    private static final long SOME_BYTES = 1000;

    public static void main(String[] args) throws IllegalAccessException {
        Check check = new Check("RoomTest");
        TriColourMachine m = new TriColourMachine();
        int[] before = size(m);
        check.holds(before[0] + " objects and arrays", before[0] <= MOST_OBJECTS);
        check.holds(before[1] + " fields and elements", before[1] <= MOST_FIELDS);
        dearCalls(check, m);
        int[] after = size(m);
        check.same("objects and arrays, later", before[0], after[0]);
        check.same("fields and elements, later", before[1], after[1]);
        check.end();
    }

    /** Each resume does 200 INSTRUCTIONS, 49 NEW TABLES among them, with FULL COLLECTIONS on the way. */
    private static void dearCalls(Check check, TriColourMachine m) {
        Told.program(m, 0,
            Told.op(1, 1, 0, 0),
            Told.op(1, 2, 0, 1),
            Told.op(5, 3, 0, 0),
            Told.op(7, 3, 1, 3),
            Told.op(8, 1, 1, 2),
            Told.op(11, 1, 0, 2),
            Told.op(18, 0, 0, 0),
            Told.op(12, 0, 0, 0));
        m.make(0, 0);
        m.number(1, 49);
        m.resume(0, 1, 2);
        ThreadMXBean threads = (ThreadMXBean) ManagementFactory.getThreadMXBean();
        long bytes = threads.getCurrentThreadAllocatedBytes();
        for (int i = 0; i < CALLS; i++) {
            m.resume(0, 1, 2);
        }
        long more = threads.getCurrentThreadAllocatedBytes() - bytes;
        check.holds("the calls made " + more + " bytes", more >= 0 && more < SOME_BYTES);
        check.holds("they collected", m.count(8) > CALLS);
        check.same("tables made", 49 * (CALLS + 1) + 1, m.count(3));
    }

    /** How many objects and arrays the machine holds, and how many fields and elements these have. */
    private static int[] size(Object first) throws IllegalAccessException {
        Set<Object> seen = Collections.newSetFromMap(new IdentityHashMap<>());
        Deque<Object> open = new ArrayDeque<>();
        open.add(first);
        int fields = 0;
        while (!open.isEmpty()) {
            Object one = open.remove();
            if (seen.add(one)) {
                fields += one.getClass().isArray() ? elements(one, open) : fields(one, open);
            }
        }
        return new int[] {seen.size(), fields};
    }

    private static int elements(Object array, Deque<Object> open) {
        int length = Array.getLength(array);
        for (int i = 0; i < length && !array.getClass().getComponentType().isPrimitive(); i++) {
            follow(Array.get(array, i), open);
        }
        return length;
    }

    private static int fields(Object object, Deque<Object> open) throws IllegalAccessException {
        int fields = 0;
        for (Field field : object.getClass().getDeclaredFields()) {
            if (Modifier.isStatic(field.getModifiers())) {
                continue;
            }
            fields++;
            field.setAccessible(true);
            if (!field.getType().isPrimitive()) {
                follow(field.get(object), open);
            }
        }
        return fields;
    }

    private static void follow(Object next, Deque<Object> open) {
        if (next != null) {
            open.add(next);
        }
    }
}

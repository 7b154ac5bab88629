import java.lang.management.ManagementFactory;
import java.lang.reflect.Array;
import java.lang.reflect.Field;
import java.lang.reflect.Modifier;
import java.util.ArrayDeque;
import java.util.Collections;
import java.util.IdentityHashMap;
import java.util.Set;

/** All calls of a run live in one room: an object is small, and the calls make nothing. */
public final class RoomTest {
    private static final int MOST_OBJECTS = 60;
    private static final int MOST_ELEMENTS = 4000;
    private static final int ROUNDS = 50;
    private static final int CALLS = 10 * ROUNDS;
    // The JVM itself may take a little on the thread, but far less than an object a call.
    private static final long MOST_BYTES = CALLS * 8L;

    public static void main(String[] args) throws IllegalAccessException {
        Check check = new Check();
        sizeOfOne(check);
        callsMakeNothing(check);
        check.end();
    }

    private static void sizeOfOne(Check check) throws IllegalAccessException {
        Set<Object> met = Collections.newSetFromMap(new IdentityHashMap<>());
        ArrayDeque<Object> toVisit = new ArrayDeque<>();
        toVisit.add(new LinkedMarkers());
        long elements = 0;
        while (!toVisit.isEmpty()) {
            Object object = toVisit.remove();
            if (met.add(object)) {
                elements += object.getClass().isArray() ? Array.getLength(object) : fieldsOf(object, toVisit);
            }
        }
        check.dueTrue(met.size() + " objects are few", met.size() <= MOST_OBJECTS);
        check.dueTrue(elements + " fields and elements are few", elements <= MOST_ELEMENTS);
    }

    private static int fieldsOf(Object object, ArrayDeque<Object> toVisit) throws IllegalAccessException {
        int fields = 0;
        for (Field field : object.getClass().getDeclaredFields()) {
            if (!Modifier.isStatic(field.getModifiers())) {
                fields++;
                field.setAccessible(true);
                if (!field.getType().isPrimitive()) {
                    toVisit.add(field.get(object));
                }
            }
        }
        return fields;
    }

    private static void callsMakeNothing(Check check) {
        var bean = (com.sun.management.ThreadMXBean) ManagementFactory.getThreadMXBean();
        long thread = Thread.currentThread().getId();
        dearCalls(Families.selfed(4), ROUNDS);
        LinkedMarkers x = Families.selfed(4);
        bean.getThreadAllocatedBytes(thread);
        long start = bean.getThreadAllocatedBytes(thread);
        dearCalls(x, ROUNDS);
        long made = bean.getThreadAllocatedBytes(thread) - start;
        check.dueTrue(made + " bytes made by the calls are few", made <= MOST_BYTES);
    }

    private static void dearCalls(LinkedMarkers x, int rounds) {
        for (int round = 0; round < rounds; round++) {
            int marker = round % 4;
            x.see(round % 4, marker, 1, 1 + round % 2);
            x.rate(round % 3, round % 9);
            x.joint();
            x.odds(1000);
            x.would(round % 3, round % 9);
            x.best(round % 3);
            x.turned(marker, round % 6);
            x.shared(marker, 1, 2);
            x.likely(marker);
            x.unsee(round % 4, marker);
        }
    }
}

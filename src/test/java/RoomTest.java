import java.lang.management.ManagementFactory;
import java.lang.reflect.Array;
import java.lang.reflect.Field;
import java.lang.reflect.Modifier;
import java.util.ArrayDeque;
import java.util.Collections;
import java.util.Deque;
import java.util.IdentityHashMap;
import java.util.Set;

/**
 * All calls of one run live in one room: what an object holds is made with it,
 * keeps within what README.md says, and no call makes another object.
 */
public final class RoomTest {
    private static final int OBJECTS_AT_MOST = 200;
    private static final int FIELDS_AT_MOST = 1700;
    private static final int TIMES = 3;
    private static final int[][] ARGUMENTS = {{0, 0, 1}, {1, 1, 1}, {0, 5, 2}, {3, 1, 9}, {-1, 0, 0}, {99, 999, 1},
        {0, Integer.MAX_VALUE, 0}, {111, 0, 0}, {59, 0, 0}};

    public static void main(String[] args) throws IllegalAccessException {
        smallEnough();
        nothingIsAdded();
        nothingIsMade();
        Due.end("RoomTest");
    }

    private static void smallEnough() throws IllegalAccessException {
        Set<Object> held = heldBy(new PurserLedgers());
        long fields = 0;
        for (Object one : held) {
            fields += fieldsOf(one);
        }
        Due.is(held.size() + " objects and arrays: too many", held.size() <= OBJECTS_AT_MOST ? 1 : 0, 1);
        Due.is(fields + " fields and elements: too many", fields <= FIELDS_AT_MOST ? 1 : 0, 1);
    }

    private static void nothingIsAdded() throws IllegalAccessException {
        PurserLedgers books = new PurserLedgers();
        Set<Object> before = heldBy(books);
        askManyThings(books);
        Set<Object> after = heldBy(books);
        Due.is("objects after many calls", after.size(), before.size());
        Due.is("they are the same ones", after.containsAll(before) ? 1 : 0, 1);
    }

    /** The least of several times, as the machine itself may make something at first. */
    private static void nothingIsMade() {
        if (!(ManagementFactory.getThreadMXBean() instanceof com.sun.management.ThreadMXBean threads)) {
            System.out.println("RoomTest: this machine does not tell what is made");
            return;
        }
        long least = Long.MAX_VALUE;
        for (int k = 0; k < TIMES; k++) {
            PurserLedgers books = new PurserLedgers();
            long before = threads.getThreadAllocatedBytes(Thread.currentThread().getId());
            askManyThings(books);
            least = Math.min(least, threads.getThreadAllocatedBytes(Thread.currentThread().getId()) - before);
        }
        Due.is("bytes made by calls", least, 0);
    }

    private static void askManyThings(PurserLedgers books) {
        for (int[] numbers : ARGUMENTS) {
            for (int which = 0; which < Calls.NAMES.length; which++) {
                Calls.ask(books, which, numbers[0], numbers[1], numbers[2]);
            }
        }
    }

    private static Set<Object> heldBy(Object root) throws IllegalAccessException {
        Set<Object> held = Collections.newSetFromMap(new IdentityHashMap<>());
        Deque<Object> open = new ArrayDeque<>();
        held.add(root);
        open.add(root);
        while (!open.isEmpty()) {
            for (Object next : referredToBy(open.remove())) {
                if (held.add(next)) {
                    open.add(next);
                }
            }
        }
        return held;
    }

    private static Deque<Object> referredToBy(Object one) throws IllegalAccessException {
        Deque<Object> all = new ArrayDeque<>();
        if (one instanceof Object[] row) {
            for (Object element : row) {
                all.add(element);
            }
        } else if (!one.getClass().isArray()) {
            for (Field field : one.getClass().getDeclaredFields()) {
                if (!Modifier.isStatic(field.getModifiers()) && !field.getType().isPrimitive()) {
                    field.setAccessible(true);
                    all.add(field.get(one));
                }
            }
        }
        return all;
    }

    private static long fieldsOf(Object one) {
        if (one.getClass().isArray()) {
            return Array.getLength(one);
        }
        long many = 0;
        for (Field field : one.getClass().getDeclaredFields()) {
            if (!Modifier.isStatic(field.getModifiers())) {
                many++;
            }
        }
        return many;
    }
}

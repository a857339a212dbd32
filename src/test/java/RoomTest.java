import java.lang.management.ManagementFactory;
import java.lang.reflect.Array;
import java.lang.reflect.Field;
import java.lang.reflect.Modifier;
import java.util.ArrayDeque;
import java.util.Collections;
import java.util.Deque;
import java.util.IdentityHashMap;
import java.util.Set;

/** All calls of a run share one room: an object is small, and no call makes anything more. */
public final class RoomTest {
    private static final Checks CHECKS = new Checks("The room");
    private static final int MOST_OBJECTS = 200;
    private static final int MOST_ELEMENTS = 25_000;
    /** Less than the smallest object takes, made by one of the calls in each round. */
    private static final long MOST_BYTES = 256;

    private int objects;
    private int elements;

    public static void main(String[] args) {
        CHECKS.test("an object is small", RoomTest::smallAtFirst);
        CHECKS.test("it stays as it is through a run of 512 calls", RoomTest::smallAtLast);
        CHECKS.test("no call makes anything", RoomTest::nothingMade);
        CHECKS.end();
    }

    private static void smallAtFirst() {
        RoomTest room = new RoomTest();
        room.count(new SlowSeal());
        CHECKS.dueTrue("objects: " + room.objects, room.objects <= MOST_OBJECTS);
        CHECKS.dueTrue("fields and elements: " + room.elements, room.elements <= MOST_ELEMENTS);
    }

    private static void smallAtLast() {
        SlowSeal x = new SlowSeal();
        RoomTest first = new RoomTest();
        first.count(x);
        run(x);
        RoomTest last = new RoomTest();
        last.count(x);
        CHECKS.due("objects after a run", last.objects, first.objects);
        CHECKS.due("fields and elements after a run", last.elements, first.elements);
    }

    /** The least of some runs, for the machine itself makes things as it loads what it needs. */
    private static void nothingMade() {
        com.sun.management.ThreadMXBean machine =
            (com.sun.management.ThreadMXBean) ManagementFactory.getThreadMXBean();
        long thread = Thread.currentThread().getId();
        long made = Long.MAX_VALUE;
        for (int again = 0; again < 3; again++) {
            SlowSeal x = new SlowSeal();
            long before = machine.getThreadAllocatedBytes(thread);
            run(x);
            made = Math.min(made, machine.getThreadAllocatedBytes(thread) - before);
        }
        CHECKS.dueTrue("bytes made in a run of 512 calls: " + made, made >= 0 && made <= MOST_BYTES);
    }

    /** 512 calls: 16 to be ready, and 31 times each kind of call, the dearest ones among them. */
    private static void run(SlowSeal x) {
        for (int r = 0; r < 8; r++) {
            x.add(r, 8, Samples.wordFor(r));
            x.longHash(r, r, 56 + r);
        }
        for (int round = 0; round < 31; round++) {
            x.add(4, 8, round);
            x.clear(5);
            x.size(4);
            x.at(4, round);
            x.hash(5, 4, 7, 64);
            x.longHash(6, 5, 200);
            x.begin(round % 3, 4, 5, 128, 128, 0, 1, 2, 3);
            x.fill(7);
            x.word(round, round);
            x.fill(100);
            x.tag(6);
            x.told(3);
            x.seal(6, round % 3, 1, 5, 128, 128, 0, 1);
            x.add(8, 8, 0);
            x.at(4, -1);
            x.begin(3, 0, 0, 0, 0, 0, 0, 0, 0);
        }
    }

    private void count(Object start) {
        Set<Object> seen = Collections.newSetFromMap(new IdentityHashMap<>());
        Deque<Object> open = new ArrayDeque<>();
        open.add(start);
        seen.add(start);
        while (!open.isEmpty()) {
            Object next = open.remove();
            objects++;
            Iterable<Object> parts = next.getClass().isArray() ? partsOfArray(next) : partsOfObject(next);
            for (Object part : parts) {
                if (seen.add(part)) {
                    open.add(part);
                }
            }
        }
    }

    private Iterable<Object> partsOfArray(Object array) {
        Deque<Object> parts = new ArrayDeque<>();
        elements += Array.getLength(array);
        if (array instanceof Object[] row) {
            for (Object part : row) {
                if (part != null) {
                    parts.add(part);
                }
            }
        }
        return parts;
    }

    private Iterable<Object> partsOfObject(Object object) {
        Deque<Object> parts = new ArrayDeque<>();
        for (Field field : object.getClass().getDeclaredFields()) {
            if (Modifier.isStatic(field.getModifiers())) {
                continue;
            }
            elements++;
            field.setAccessible(true);
            Object part = valueOf(field, object);
            if (part != null && !field.getType().isPrimitive()) {
                parts.add(part);
            }
        }
        return parts;
    }

    private static Object valueOf(Field field, Object object) {
        try {
            return field.get(object);
        } catch (IllegalAccessException thrown) {
            throw new IllegalStateException(thrown);
        }
    }
}

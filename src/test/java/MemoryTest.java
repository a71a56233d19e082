import java.lang.management.ManagementFactory;
import java.lang.reflect.Array;
import java.lang.reflect.Field;
import java.lang.reflect.Modifier;
import java.util.ArrayDeque;
import java.util.ArrayList;
import java.util.Collections;
import java.util.Deque;
import java.util.IdentityHashMap;
import java.util.List;
import java.util.Set;

/** "All memory is rows made once.": an object holds the same rows for good, and a call makes none (a refused one its exception alone). */
public final class MemoryTest {
    private static final com.sun.management.ThreadMXBean THREADS =
        (com.sun.management.ThreadMXBean) ManagementFactory.getThreadMXBean();

    public static void main(String[] args) throws IllegalAccessException {
        Due.of("terms, rows made once");
        theSameIsHeldAfterAllCalls();
        theSameIsHeldAfterRefusals();
        manyObjectsFitInOneRoom();
        callsMakeNothing();
        Due.end();
    }

    private static void theSameIsHeldAfterAllCalls() throws IllegalAccessException {
        CallJoin x = new CallJoin();
        Set<Object> before = heldBy(x);
        useEveryMethod(x);
        Due.holds("held after all calls", before.equals(heldBy(x)));
        Due.is("the calls were made", 120, () -> x.count(0));
        Due.is("the events were made", 60, () -> x.count(1));
    }

    private static void theSameIsHeldAfterRefusals() throws IllegalAccessException {
        CallJoin x = Sample.full();
        Set<Object> before = heldBy(x);
        Due.refuses("a 121st call", Due.ROOM, () -> x.call(0, 0, -1, 0, -1, 119));
        Due.refuses("a 61st event", Due.ROOM, () -> x.split(60));
        for (int i = 0; i < 8; i++) {
            x.point(0, i);
        }
        Due.refuses("a ninth point", Due.ROOM, () -> x.point(0, 0));
        Due.holds("held after refusals", before.equals(heldBy(x)));
    }

    /** All objects of a run share one room of some 600,000 objects and 7.3 million fields: here, a thousand of them. */
    private static void manyObjectsFitInOneRoom() throws IllegalAccessException {
        int fields = 0;
        Set<Object> held = heldBy(new CallJoin());
        for (Object each : held) {
            fields += each.getClass().isArray() ? Array.getLength(each) : fieldsOf(each).size();
        }
        Due.holds("objects", held.size() <= 600);
        Due.holds("fields and elements", fields <= 7_300);
    }

    /** The least of several rounds, because the machine itself may make something while it warms up. */
    private static void callsMakeNothing() {
        long least = Long.MAX_VALUE;
        for (int round = 0; round < 20; round++) {
            CallJoin x = new CallJoin();
            long before = THREADS.getCurrentThreadAllocatedBytes();
            useEveryMethod(x);
            least = Math.min(least, THREADS.getCurrentThreadAllocatedBytes() - before);
        }
        Due.same("bytes made by calls that are not refused", "0", Long.toString(least));
    }

    /** Up to 120 calls, 60 events and 8 points of a road, in 459 calls of the face, none of which is refused. */
    private static void useEveryMethod(CallJoin x) {
        for (int i = 0; i < 8; i++) {
            x.rule(i, 100, 1000, 1, 2);
            x.weight(i, i, 5);
            x.point(3, 10_000 * i);
        }
        for (int i = 0; i < 60; i++) {
            x.call(i % 30, i % 8, 1_000_000 * i, 1 << i % 32, i % 8, i);
        }
        for (int i = 60; i < 120; i++) {
            x.call(i % 30, i % 8, -1, 0, -1, i);
        }
        for (int i = 0; i < 30; i++) {
            x.split(30 + i);
            x.watch(i, 3, 0, 7);
            x.mark(i, 4);
        }
        for (int i = 0; i < 28; i++) {
            x.merge(i, 29);
        }
        x.state(28, 1);
        for (int i = 0; i < 28; i++) {
            readEveryPart(x, i);
        }
    }

    private static void readEveryPart(CallJoin x, int i) {
        x.reasonFor(i, i % 8, i, i, i % 8, 119);
        x.share(i, i + 1);
        x.agree(i, i + 1);
        x.callAt(i, i % 5);
        x.eventAt(i, i % 7);
        x.member(29, i);
        x.count(i % 4);
    }

    private static Set<Object> heldBy(Object top) throws IllegalAccessException {
        Set<Object> held = Collections.newSetFromMap(new IdentityHashMap<>());
        Deque<Object> open = new ArrayDeque<>(List.of(top));
        while (!open.isEmpty()) {
            Object each = open.pop();
            if (held.add(each)) {
                open.addAll(heldDirectly(each));
            }
        }
        return held;
    }

    private static List<Object> heldDirectly(Object owner) throws IllegalAccessException {
        List<Object> held = new ArrayList<>();
        if (owner instanceof Object[] row) {
            Collections.addAll(held, row);
        } else if (!owner.getClass().isArray()) {
            for (Field field : fieldsOf(owner)) {
                if (!field.getType().isPrimitive()) {
                    field.setAccessible(true);
                    held.add(field.get(owner));
                }
            }
        }
        held.removeIf(each -> each == null);
        return held;
    }

    private static List<Field> fieldsOf(Object owner) {
        List<Field> fields = new ArrayList<>();
        for (Field field : owner.getClass().getDeclaredFields()) {
            if (!Modifier.isStatic(field.getModifiers())) {
                fields.add(field);
            }
        }
        return fields;
    }
}

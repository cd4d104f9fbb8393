import java.lang.management.ManagementFactory;
import java.lang.reflect.Array;
import java.lang.reflect.Field;
import java.lang.reflect.Modifier;
import java.util.ArrayDeque;
import java.util.Collections;
import java.util.Deque;
import java.util.IdentityHashMap;
import java.util.Set;

/** All calls of a run live in one room: what an object takes of it, and that calls take nothing more. */
public final class RoomTest {
    private static final Checks checks = new Checks();
    /** A thousand objects of this size are not half of the room. */
    private static final int MOST_OBJECTS = 100, MOST_ELEMENTS = 3000;
    private static final int OBJECTS = 200;

    private static int objects = 0;
    private static int elements = 0;

    public static void main(String[] args) throws Exception {
        anObject();
        calls();
        checks.end();
    }

    private static void anObject() throws Exception {
        count(new TreeDebts());
        checks.holds(objects + " objects and arrays", objects <= MOST_OBJECTS);
        checks.holds(elements + " fields and elements", elements <= MOST_ELEMENTS);
    }

    /** All that can be reached from an object, each once. */
    private static void count(Object first) throws Exception {
        Set<Object> seen = Collections.newSetFromMap(new IdentityHashMap<>());
        Deque<Object> open = new ArrayDeque<>();
        open.add(first);
        while (!open.isEmpty()) {
            Object o = open.remove();
            if (!seen.add(o)) continue;
            objects++;
            if (o.getClass().isArray()) openArray(o, open);
            else openFields(o, open);
        }
    }

    private static void openArray(Object array, Deque<Object> open) {
        elements += Array.getLength(array);
        if (array.getClass().getComponentType().isPrimitive()) return;
        for (Object inside : (Object[]) array) {
            if (inside != null) open.add(inside);
        }
    }

    private static void openFields(Object o, Deque<Object> open) throws Exception {
        for (Field f : o.getClass().getDeclaredFields()) {
            if (Modifier.isStatic(f.getModifiers())) continue;
            elements++;
            f.setAccessible(true);
            if (!f.getType().isPrimitive() && f.get(o) != null) open.add(f.get(o));
        }
    }

    private static void calls() {
        TreeDebts[] all = new TreeDebts[OBJECTS];
        for (int i = 0; i < OBJECTS; i++) all[i] = new TreeDebts();
        // The first calls may make what the machine itself needs.
        everyCall(new TreeDebts());
        allocated();
        long before = allocated();
        int lines = 0;
        for (TreeDebts x : all) lines += everyCall(x);
        long taken = allocated() - before;
        checks.due("the text was told each time", lines, 6 * OBJECTS);
        // One object a round, of the 16 bytes that the least one takes, would come to as much.
        checks.holds("calls make no objects: " + taken + " bytes", taken < 16 * OBJECTS);
    }

    private static long allocated() {
        return ((com.sun.management.ThreadMXBean) ManagementFactory.getThreadMXBean())
            .getThreadAllocatedBytes(Thread.currentThread().getId());
    }

    /** Each call of the face, with much to look at; how many LINES were told. */
    private static int everyCall(TreeDebts x) {
        ReadmeTest.tell(x, "oak 99 9 2;hollow 99 9 9;twin 9 9 9;quarrel 0 2;part 2 3;hands 1");
        x.fault();
        int lines = x.wood();
        x.hut(99, 30, 0);
        for (int i = 0; i < 6; i++) {
            x.borrow(0, 1);
            x.borrow(1, 9);
        }
        x.keep(0);
        x.days(99);
        x.later(0, 99);
        x.all(99, 0);
        x.clear();
        x.enough(99);
        x.rid(5, 0);
        x.grandson(99);
        x.back(0);
        x.sell(0, 1);
        x.toWhom(9, 30, 900);
        x.tree(1, 7);
        x.loan(0, 4);
        x.as(1, 4);
        x.fire(0);
        x.count(6);
        x.erase();
        return lines;
    }
}

import java.lang.management.ManagementFactory;
import java.lang.reflect.Array;
import java.lang.reflect.Field;
import java.lang.reflect.Modifier;
import java.util.ArrayDeque;
import java.util.Collections;
import java.util.Deque;
import java.util.IdentityHashMap;
import java.util.Set;

/** An object is small, and its calls make nothing: all calls of a run live in one room. */
public final class RoomTest {
    private static final Checks CHECKS = new Checks("RoomTest");
    private static final int CALLS = 512;
    private static final int MOST_OBJECTS = 100;
    private static final int MOST_FIELDS = 2000;
    // Some of what is measured is the measuring's own.
    private static final long MOST_BYTES = 4096;

    public static void main(String[] args) throws Exception {
        PowerTables x = new PowerTables();
        Set<Object> before = reachable(x);
        CHECKS.isTrue(before.size() + " objects are few", before.size() <= MOST_OBJECTS);
        CHECKS.isTrue(fields(before) + " fields and elements are few", fields(before) <= MOST_FIELDS);
        useAll(x, CALLS);
        Set<Object> behind = reachable(x);
        CHECKS.isTrue("an object keeps what it had", before.containsAll(behind) && behind.containsAll(before));
        callsMakeNothing();
        CHECKS.end();
    }

    private static Set<Object> reachable(Object root) throws Exception {
        Set<Object> seen = Collections.newSetFromMap(new IdentityHashMap<>());
        Deque<Object> open = new ArrayDeque<>();
        open.add(root);
        seen.add(root);
        while (!open.isEmpty()) {
            Object each = open.remove();
            if (each instanceof Object[] elements) {
                for (Object element : elements) {
                    reach(element, seen, open);
                }
            } else if (!each.getClass().isArray()) {
                for (Field field : each.getClass().getDeclaredFields()) {
                    if (!Modifier.isStatic(field.getModifiers()) && !field.getType().isPrimitive()) {
                        field.setAccessible(true);
                        reach(field.get(each), seen, open);
                    }
                }
            }
        }
        return seen;
    }

    private static void reach(Object each, Set<Object> seen, Deque<Object> open) {
        if (each != null && seen.add(each)) {
            open.add(each);
        }
    }

    private static int fields(Set<Object> objects) {
        int sum = 0;
        for (Object each : objects) {
            sum += each.getClass().isArray() ? Array.getLength(each) : each.getClass().getDeclaredFields().length;
        }
        return sum;
    }

    private static void callsMakeNothing() {
        if (!(ManagementFactory.getThreadMXBean() instanceof com.sun.management.ThreadMXBean measure)
            || !measure.isThreadAllocatedMemorySupported() || !measure.isThreadAllocatedMemoryEnabled()) {
            System.out.println("RoomTest: this machine does not tell what calls make");
            return;
        }
        long thread = Thread.currentThread().getId();
        useAll(new PowerTables(), CALLS);
        measure.getThreadAllocatedBytes(thread);
        PowerTables x = new PowerTables();
        long ahead = measure.getThreadAllocatedBytes(thread);
        useAll(x, CALLS);
        long made = measure.getThreadAllocatedBytes(thread) - ahead;
        CHECKS.isTrue(CALLS + " calls make " + made + " bytes", made <= MOST_BYTES);
    }

    private static void useAll(PowerTables x, int calls) {
        for (int i = 0; i < calls; i++) {
            use(x, i);
        }
    }

    private static void use(PowerTables x, int call) {
        int round = call / 26;
        switch (call % 26) {
            case 0 -> x.begin(round % 6, round);
            case 1 -> x.print(30);
            case 2 -> x.slip(round % 6, round % 9, 3);
            case 3 -> x.print(9);
            case 4 -> x.strike(round);
            case 5 -> x.renew(round % 10);
            case 6 -> x.set(0, 1 + round % 20);
            case 7 -> x.append('p');
            case 8 -> x.append('1');
            case 9 -> x.obey();
            case 10 -> x.append('x');
            case 11 -> x.firstError();
            case 12 -> x.clearBuffer();
            case 13 -> x.guess(1);
            case 14 -> x.ifPrinted(40, 2);
            case 15 -> x.bestGroup();
            case 16 -> x.mostWorn();
            case 17 -> x.rightness();
            case 18 -> x.group(1, 1);
            case 19 -> x.difference(5, 3);
            case 20 -> x.register(2, true);
            case 21 -> x.row(7, 3);
            case 22 -> x.count(8);
            case 23 -> x.correct();
            case 24 -> x.undo();
            default -> x.digest();
        }
    }
}

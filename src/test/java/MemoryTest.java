import java.lang.management.ManagementFactory;
import java.lang.reflect.Array;
import java.lang.reflect.Field;
import java.lang.reflect.Modifier;
import java.util.ArrayDeque;
import java.util.Collections;
import java.util.Deque;
import java.util.IdentityHashMap;
import java.util.Set;

/** What an object keeps is made with it, and is small: no call makes anything more. */
final class MemoryTest {
    private static long objects;
    private static long elements;

    public static void main(String[] args) throws IllegalAccessException {
        DampHouse x = new DampHouse();
        measure(x);
        long objectsAtFirst = objects;
        long elementsAtFirst = elements;
        Check.dueThat("few objects: " + objects, objects < 200);
        Check.dueThat("few elements: " + elements, elements < 20000);
        dearCalls(new DampHouse());
        long before = allocated();
        dearCalls(x);
        long made = allocated() - before;
        Check.dueThat("calls make nothing: " + made + " bytes", made < 4096);
        measure(x);
        Check.due("objects as at first", objects, objectsAtFirst);
        Check.due("elements as at first", elements, elementsAtFirst);
        Check.finish();
    }

    private static long allocated() {
        return ((com.sun.management.ThreadMXBean) ManagementFactory.getThreadMXBean())
                .getThreadAllocatedBytes(Thread.currentThread().getId());
    }

    private static void dearCalls(DampHouse x) {
        for (int i = 0; i < 12; i++) {
            x.wall(i, i % 6, 10 * i % 101, true);
            x.cause(i % 4, i % 6, 10 + i, i);
            x.look(1 << i % 6, 10 + i);
            x.trial(i % 6, i % 2, 9, 3 + 10 * i, 9 + 10 * i);
            x.rule(i, i % 4, i % 2, i);
            x.made(i % 6, i, 400);
            x.outside(40 * i, i % 2, i);
        }
        for (int i = 0; i < 16; i++) {
            x.flat(i, i % 4, i / 4, i % 2);
        }
        for (int i = 0; i < 60; i++) {
            x.hours(10);
            x.reading(i % 12, 10 * i + 10, 300, 900);
        }
        for (int i = 0; i < 20; i++) {
            x.dry(1 + i);
            x.off(0);
            x.tale(63, i % 12);
            x.best();
            x.simple(i % 2);
            x.rivals();
            x.next();
            x.plan();
            x.trialOf(i, 2);
            x.joins();
            x.chance(0);
            x.word(true, i % 4, true);
            x.due(i % 4, 0);
            x.quarrel(i % 4);
            x.count(i);
            x.room(i % 6, 1, i);
        }
    }

    private static void measure(Object root) throws IllegalAccessException {
        objects = 0;
        elements = 0;
        Set<Object> seen = Collections.newSetFromMap(new IdentityHashMap<>());
        Deque<Object> open = new ArrayDeque<>();
        open.add(root);
        while (!open.isEmpty()) {
            Object each = open.remove();
            if (!seen.add(each)) {
                continue;
            }
            objects++;
            if (each.getClass().isArray()) {
                elements += Array.getLength(each);
                for (int i = 0; each instanceof Object[] parts && i < parts.length; i++) {
                    open.add(parts[i]);
                }
                continue;
            }
            for (Field f : each.getClass().getDeclaredFields()) {
                if (!Modifier.isStatic(f.getModifiers())) {
                    elements++;
                    f.setAccessible(true);
                    if (!f.getType().isPrimitive() && f.get(each) != null) {
                        open.add(f.get(each));
                    }
                }
            }
        }
    }
}

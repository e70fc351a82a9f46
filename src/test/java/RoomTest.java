import java.lang.management.ManagementFactory;
import java.lang.reflect.Array;
import java.lang.reflect.Field;
import java.lang.reflect.Modifier;
import java.util.Collections;
import java.util.IdentityHashMap;
import java.util.Set;

/** All calls of one run live in one room: what an object takes of it, and that its calls take no more. */
public final class RoomTest {
    private static final Check CHECK = new Check();
    /** So that hundreds of objects, each with an image, have room beside one another. */
    private static final int MOST_OBJECTS = 200;
    private static final int MOST_ELEMENTS = 20000;

    private final Set<Object> seen = Collections.newSetFromMap(new IdentityHashMap<>());
    private int elements;

    public static void main(String[] args) throws IllegalAccessException {
        TurnedIsland x = new TurnedIsland();
        x.image(true);
        everyCall(x);
        RoomTest room = new RoomTest();
        room.count(x);
        CHECK.yes(room.seen.size() + " objects and arrays", room.seen.size() <= MOST_OBJECTS);
        CHECK.yes(room.elements + " fields and elements", room.elements <= MOST_ELEMENTS);
        callsMakeNothing(x);
        CHECK.close();
    }

    private void count(Object o) throws IllegalAccessException {
        if (o == null || !seen.add(o)) {
            return;
        }
        Class<?> c = o.getClass();
        if (c.isArray()) {
            int length = Array.getLength(o);
            elements += length;
            for (int i = 0; i < length && !c.getComponentType().isPrimitive(); i++) {
                count(Array.get(o, i));
            }
            return;
        }
        for (Field f : c.getDeclaredFields()) {
            if (!Modifier.isStatic(f.getModifiers())) {
                elements++;
                f.setAccessible(true);
                if (!f.getType().isPrimitive()) {
                    count(f.get(o));
                }
            }
        }
    }

    private static void callsMakeNothing(TurnedIsland x) {
        var threads = (com.sun.management.ThreadMXBean) ManagementFactory.getThreadMXBean();
        long me = Thread.currentThread().getId();
        threads.getThreadAllocatedBytes(me);
        long before = threads.getThreadAllocatedBytes(me);
        for (int i = 0; i < 20; i++) {
            everyCall(x);
        }
        long made = threads.getThreadAllocatedBytes(me) - before;
        // What the machine itself makes now and then is far below the least row that a call could make each time.
        CHECK.yes("calls made " + made + " bytes", made < 2000);
    }

    /** Each method at least once, in a state in which it has much to do; goes back to where it began. */
    private static void everyCall(TurnedIsland x) {
        x.feed(0x776f7274, 0x68207375, 0x6e207768, 0x656e2064, 0x61793e30);
        x.feed(0x3b202020, 0x20202020, 0x20202020, 0x20202020, 0x20202020);
        x.end(30);
        x.text(0);
        x.fault(0);
        for (int i = 0; i < 10; i++) {
            x.sky(0, 0, i, 9 - 2 * i);
            x.plot(i, 1 + i % 9, 0, i);
            x.pay(i, -i);
            x.promise(3, i % 3 - 1, i, i + 5);
            x.plan(i, 1);
            x.log(i, i, i);
        }
        x.sell(1, 2, 0, 9, 5);
        x.drop(0);
        x.set(3, 2);
        x.noons(400);
        x.undo();
        for (int i = 0; i < 10; i++) {
            x.worth(i, 5, 5, 1);
            x.votes(i);
            x.holder(i, 5);
            x.of(i, 5);
            x.of(i, 6);
            x.boat(i, 3, 3);
            x.look(i);
        }
        x.turned(390);
        x.best(30, 10);
        x.fair(6, 10);
        x.alone(1023, 6);
        x.leave(6);
        x.quarrel();
        x.fewest(3);
        x.back(0, 39, 10);
        x.image(false);
        x.image(true);
        x.notches(12);
    }
}

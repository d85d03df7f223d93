import com.sun.management.ThreadMXBean;
import java.lang.management.ManagementFactory;
import java.lang.reflect.Array;
import java.lang.reflect.Field;
import java.lang.reflect.Modifier;
import java.util.ArrayDeque;
import java.util.Collections;
import java.util.Deque;
import java.util.IdentityHashMap;
import java.util.Set;

/** What a run may make is counted: a new object is small, and no call that answers makes anything. */
public final class RoomTest {
    private static final int CALLS = 512;
    private static final int MOST_OBJECTS = 600000 / CALLS;
    private static final int MOST_ELEMENTS = 7300000 / CALLS;

    private RoomTest() {
    }

    public static void main(String[] args) throws IllegalAccessException {
        Kit.part("room");
        newObject();
        calls();
        Kit.end();
    }

    /** Even 512 new objects, one a call, stay within the room. */
    private static void newObject() throws IllegalAccessException {
        Set<Object> seen = Collections.newSetFromMap(new IdentityHashMap<>());
        Deque<Object> open = new ArrayDeque<>();
        open.add(new CryptBank());
        long elements = 0;
        while (!open.isEmpty()) {
            Object one = open.remove();
            if (!seen.add(one)) {
                continue;
            }
            if (one.getClass().isArray()) {
                elements += Array.getLength(one);
                for (int i = 0; i < Array.getLength(one) && !one.getClass().getComponentType().isPrimitive(); i++) {
                    open.add(Array.get(one, i));
                }
                continue;
            }
            for (Field field : one.getClass().getDeclaredFields()) {
                if (!Modifier.isStatic(field.getModifiers())) {
                    elements++;
                    field.setAccessible(true);
                    if (!field.getType().isPrimitive()) {
                        open.add(field.get(one));
                    }
                }
            }
        }
        System.out.println("a new object: " + seen.size() + " objects and arrays, " + elements + " fields and elements");
        Kit.due("objects", seen.size() <= MOST_OBJECTS, true);
        Kit.due("elements", elements <= MOST_ELEMENTS, true);
    }

    private static void calls() {
        ThreadMXBean threads = (ThreadMXBean) ManagementFactory.getThreadMXBean();
        CryptBank x = Kit.bank("slab 0 60;".repeat(8) + "soul 9 50;".repeat(6));
        long id = Thread.currentThread().getId();
        long made = Long.MAX_VALUE;
        for (int round = 0; round < 5; round++) {
            // Asking the machine makes something itself: that much is taken off.
            long ahead = threads.getThreadAllocatedBytes(id);
            long before = threads.getThreadAllocatedBytes(id);
            everyCall(x);
            made = Math.min(made, threads.getThreadAllocatedBytes(id) - before - (before - ahead));
        }
        System.out.println("every call once: " + made + " bytes made");
        Kit.due("made by calls that answer", made, 0);
    }

    private static void everyCall(CryptBank x) {
        // "lend 0 0 9 9;", "amount*2", "0 0 20;"
        x.feed(0x6c656e64, 0x20302030, 0x20392039, 0x3b000000, 0);
        x.work(13);
        x.feed(0x616d6f75, 0x6e742a32, 0, 0, 0);
        x.law(8);
        x.feed(0x30203020, 0x32303b00, 0, 0, 0);
        x.book(7);
        x.feed(0x30203020, 0x32303b00, 0, 0, 0);
        x.county(7);
        x.fault();
        x.told(6);
        x.slab(0, 4);
        x.soul(0, 4);
        x.loan(0, 6);
        x.would(1, 0, 0, 0, 0, 0, 0, 0);
        x.lends(0, 0, 1);
        x.ahead(99, 0);
        x.cheapest(0, 0, 1, 1);
        x.clears(0);
        x.comes(1);
        x.serves(0);
        x.served(0);
        x.call(0);
        x.run(0, 0);
        x.all(12, 3, 5, 0);
        x.saint(1, 1, 0);
        x.candles(0, 1, 9);
        x.richest(0);
        x.next(0);
        x.shut();
        x.kind(0, 0);
        x.worth(0);
        x.broke(0);
        x.late(0, 0);
        x.trust(0, 1);
        x.deepest(0);
        x.poorest(0);
        x.winter(1, 4, 96, 0);
        x.span(1, 20, 4, 96, 0, 0);
        x.image();
        x.restore();
        x.undo();
        x.feed(0x6c656e64, 0x20302030, 0x20392039, 0x3b000000, 0);
        x.work(13);
        x.status(0);
        x.count(0);
    }
}

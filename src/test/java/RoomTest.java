import java.lang.management.ManagementFactory;
import java.lang.reflect.Array;
import java.lang.reflect.Field;
import java.lang.reflect.Modifier;
import java.util.IdentityHashMap;
import java.util.Map;

/** All calls of a run live in one room: a new object is small, and no call makes another one. */
public final class RoomTest {
    private static final int MOST_OBJECTS = 1000;
    private static final int MOST_CELLS = 100_000;
    /** What the Java machine itself may make meanwhile; a call that made one int[] of 60 would be far above. */
    private static final long MOST_BYTES = 20_000;
    private static int cells = 0;

    public static void main(String[] args) throws ReflectiveOperationException {
        newObject();
        calls();
        Gate.finish("RoomTest");
    }

    private static void newObject() throws ReflectiveOperationException {
        Map<Object, Boolean> seen = new IdentityHashMap<>();
        count(new PostGate(), seen);
        Gate.due("a new object has at most " + MOST_OBJECTS + " objects and arrays", seen.size() <= MOST_OBJECTS
                ? 1 : 0, 1);
        Gate.due("a new object has at most " + MOST_CELLS + " fields and elements", cells <= MOST_CELLS ? 1 : 0, 1);
    }

    private static void count(Object object, Map<Object, Boolean> seen) throws ReflectiveOperationException {
        if (object == null || object instanceof String || seen.put(object, true) != null) {
            return;
        }
        if (object.getClass().isArray()) {
            cells += Array.getLength(object);
            for (int i = 0; object instanceof Object[] && i < Array.getLength(object); i++) {
                count(Array.get(object, i), seen);
            }
            return;
        }
        for (Field field : object.getClass().getDeclaredFields()) {
            if (Modifier.isStatic(field.getModifiers())) {
                continue;
            }
            cells++;
            field.setAccessible(true);
            if (!field.getType().isPrimitive()) {
                count(field.get(object), seen);
            }
        }
    }

    private static Gate dearest() {
        Gate gate = World.of("v=spf1 include:b.com include:b.com -all");
        gate.text("b.com", "v=spf1 exists:%{ir}.%{l1r}.%{d} mx:mail.com/32 a:%{o} ~all");
        gate.text("_dmarc.a.com", "v=DMARC1; p=reject");
        gate.text(Letter.KEY_NAME, Letter.KEY);
        gate.sender("x@a.com", 1);
        String field = Letter.own("c=relaxed/relaxed; ", Letter.BODY) + Letter.NO_SIGNATURE;
        gate.message(Letter.FROM + "\n" + (field + "\n").repeat(12) + "\n" + Letter.BODY);
        return gate;
    }

    private static void ask(Gate gate) {
        gate.gate.permission();
        gate.gate.wish(5);
        gate.gate.sealed(0, 5);
        gate.gate.plainBody(true);
        gate.gate.plainField(1, true);
        gate.gate.feed(0x61616161, 0x61616161, 0x61616161, 0x61616161, 0x61616161);
        gate.gate.house();
        gate.gate.feed(1, 2, 3, 4, 5);
        gate.gate.digest();
        gate.gate.octet(31);
        gate.gate.message();
        gate.gate.sender(1);
        gate.gate.entry(0, 0);
    }

    private static void calls() {
        java.lang.management.ThreadMXBean plain = ManagementFactory.getThreadMXBean();
        if (!(plain instanceof com.sun.management.ThreadMXBean)) {
            return;
        }
        com.sun.management.ThreadMXBean counter = (com.sun.management.ThreadMXBean) plain;
        Gate gate = dearest();
        Gate.due("the dearest WISH", gate.gate.wish(5), 9);
        ask(gate);
        long id = Thread.currentThread().getId();
        counter.getThreadAllocatedBytes(id);
        long before = counter.getThreadAllocatedBytes(id);
        for (int i = 0; i < 100; i++) {
            ask(gate);
        }
        long made = counter.getThreadAllocatedBytes(id) - before;
        Gate.due("bytes made by 1300 calls: " + made, made <= MOST_BYTES ? 1 : 0, 1);
    }
}

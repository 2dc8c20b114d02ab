import com.sun.management.ThreadMXBean;
import java.lang.management.ManagementFactory;
import java.lang.reflect.Array;
import java.lang.reflect.Field;
import java.lang.reflect.Modifier;
import java.util.IdentityHashMap;
import java.util.Map;

/** How much room an object takes, and that its calls take none and end soon. */
public final class RoomTest {
    private static final Check CHECK = new Check("room");
    private static final byte[] WIDEST =
        "h24,15,15,15,15;n0;n1;n2;n3;n0;n1;p2;n3;t255;t254;t253;t251;t247;".getBytes();
    private static final byte[] HARDEST =
        "h5,7,7,15,0;p2;p0;f1;p2;p0;p2;n0;p1;t187;t254;t191;t64;t255;".getBytes();

    public static void main(String[] args) throws ReflectiveOperationException {
        anObjectIsSmall();
        callsMakeNothing();
        longCallsEnd();
        CHECK.end();
    }

    private static void anObjectIsSmall() throws ReflectiveOperationException {
        Map<Object, Boolean> seen = new IdentityHashMap<>();
        long parts = parts(new HedgeGate(), seen);
        System.out.println("room: a new object has " + seen.size() + " objects and arrays, " + parts
            + " fields and elements");
        CHECK.holds("few objects", seen.size() < 150);
        CHECK.holds("few fields and elements", parts < 5000);
    }

    private static long parts(Object of, Map<Object, Boolean> seen) throws ReflectiveOperationException {
        if (of == null || seen.put(of, true) != null) {
            return 0;
        }
        long sum = 0;
        if (of.getClass().isArray()) {
            sum += Array.getLength(of);
            if (of instanceof Object[] objects) {
                for (Object o : objects) {
                    sum += parts(o, seen);
                }
            }
            return sum;
        }
        for (Field f : of.getClass().getDeclaredFields()) {
            if (!Modifier.isStatic(f.getModifiers())) {
                sum++;
                f.setAccessible(true);
                if (!f.getType().isPrimitive()) {
                    sum += parts(f.get(of), seen);
                }
            }
        }
        return sum;
    }

    private static void callsMakeNothing() {
        ThreadMXBean threads = (ThreadMXBean) ManagementFactory.getThreadMXBean();
        long least = Long.MAX_VALUE;
        int sum = 0;
        // the machine itself may make something while it warms up
        for (int i = 0; i < 20; i++) {
            HedgeGate x = new HedgeGate();
            long id = Thread.currentThread().getId();
            long before = threads.getThreadAllocatedBytes(id);
            sum += everyCall(x, i % 2 == 0 ? WIDEST : HARDEST);
            least = Math.min(least, threads.getThreadAllocatedBytes(id) - before);
        }
        CHECK.holds("calls were made " + sum, sum != 0);
        CHECK.holds("calls make no object: " + least, least < 200);
    }

    private static int everyCall(HedgeGate x, byte[] text) {
        int sum = 0;
        for (byte b : text) {
            sum += x.feed(b);
        }
        sum += x.hedge() + x.fault() + x.row(0, 0, 40) + x.row(1, 2, 40) + x.set(0, 1, 1) + x.set(0, 2, 2);
        sum += x.copy(0, 0, 0, 1, 30) + x.goneBy(0, 0, 1) + x.goneBy(0, 1, 3) + x.drop(1) + x.status();
        for (int k = -1; k < 8; k++) {
            sum += x.plan(k) + x.talk(k) + x.can(k) + x.soon(k) + x.family(k, 1) + x.who(k, 0) + x.ban(k);
            sum += x.word(k, 3) + x.traveller(k, 2) + x.kind(k) + x.as(k, 1) + x.ask(k, 0) + x.ask(k, 1);
            sum += x.trace(k) + x.count(k) + x.image(k) + x.asks(k, k) + x.follows(k) + x.waits(k) + x.restore(k);
        }
        return sum + x.undo();
    }

    private static void longCallsEnd() {
        for (byte[] text : new byte[][] {WIDEST, HARDEST}) {
            HedgeGate x = new HedgeGate();
            for (byte b : text) {
                x.feed(b);
            }
            CHECK.due("travellers", x.hedge(), 5);
            long begun = System.nanoTime();
            for (int i = 0; i < 400; i++) {
                CHECK.holds("a plan", x.plan(-1) > 0);
            }
            CHECK.holds("400 plans within a minute", System.nanoTime() - begun < 60_000_000_000L);
        }
    }
}

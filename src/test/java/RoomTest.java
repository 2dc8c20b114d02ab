import com.sun.management.ThreadMXBean;
import java.lang.management.ManagementFactory;
import java.lang.reflect.Array;
import java.lang.reflect.Field;
import java.lang.reflect.Modifier;
import java.util.IdentityHashMap;
import java.util.Map;

/** That what an object and its calls make stays within the room of a run, and that long calls end soon. */
public final class RoomTest {
    private static final Check CHECK = new Check("room");
    /** The room of a run; a field or an element has 4 bytes at least. */
    private static final long OBJECTS = 600_000, PARTS = 7_300_000, BYTES = 4 * PARTS;
    private static final byte[] WIDEST =
        "h24,15,15,15,15;n0;n1;n2;n3;n0;n1;p2;n3;t255;t254;t253;t251;t247;".getBytes();
    private static final byte[] HARDEST =
        "h5,7,7,15,0;p2;p0;f1;p2;p0;p2;n0;p1;t187;t254;t191;t64;t255;".getBytes();

    public static void main(String[] args) throws ReflectiveOperationException {
        anObjectIsSmall();
        callsMakeLittle();
        longCallsEnd();
        CHECK.end();
    }

    private static void anObjectIsSmall() throws ReflectiveOperationException {
        Map<Object, Boolean> seen = new IdentityHashMap<>();
        long parts = parts(new HedgeGate(), seen);
        System.out.println("room: a new object has " + seen.size() + " objects and arrays, " + parts
            + " fields and elements");
        CHECK.holds("few objects", seen.size() < OBJECTS / 100);
        CHECK.holds("few fields and elements", parts < PARTS / 100);
    }

    private static long parts(Object of, Map<Object, Boolean> seen) throws ReflectiveOperationException {
        if (of == null || seen.put(of, true) != null) {
            return 0;
        }
        long sum = 0;
        if (of.getClass().isArray()) {
            sum += Array.getLength(of);
            if (of instanceof Object[] objects) {
                for (Object o : objects) {
                    sum += parts(o, seen);
                }
            }
            return sum;
        }
        if (!of.getClass().getName().startsWith("HedgeGate")) {
            return 1;
        }
        for (Field f : of.getClass().getDeclaredFields()) {
            if (!Modifier.isStatic(f.getModifiers())) {
                sum++;
                f.setAccessible(true);
                if (!f.getType().isPrimitive()) {
                    sum += parts(f.get(of), seen);
                }
            }
        }
        return sum;
    }

    /** The least of several runs: the machine itself may make something while it warms up. */
    private static void callsMakeLittle() {
        ThreadMXBean threads = (ThreadMXBean) ManagementFactory.getThreadMXBean();
        long least = Long.MAX_VALUE;
        int sum = 0;
        for (int i = 0; i < 6; i++) {
            HedgeGate x = new HedgeGate();
            long id = Thread.currentThread().getId();
            long before = threads.getThreadAllocatedBytes(id);
            sum += everyCall(x, i % 2 == 0 ? WIDEST : HARDEST);
            sum += dearCalls(x);
            least = Math.min(least, threads.getThreadAllocatedBytes(id) - before);
        }
        System.out.println("room: a run of dear calls makes " + least + " bytes");
        CHECK.holds("calls were made " + sum, sum != 0);
        CHECK.holds("calls make little: " + least, least < BYTES);
    }

    /** As many as a run may still have behind everyCall. */
    private static int dearCalls(HedgeGate x) {
        int sum = 0;
        for (int i = 0; i < 40; i++) {
            sum += x.plan(-1) + x.plan(4) + x.talk(0) + x.who(31, 0) + x.family(31, 0) + x.goneBy(0, 0, 5);
        }
        return sum;
    }

    private static int everyCall(HedgeGate x, byte[] text) {
        int sum = 0;
        for (byte b : text) {
            sum += x.feed(b);
        }
        sum += x.hedge() + x.fault() + x.row(0, 0, 40) + x.row(1, 2, 40) + x.set(0, 1, 1) + x.set(0, 2, 2);
        sum += x.copy(0, 0, 0, 1, 30) + x.goneBy(0, 0, 1) + x.goneBy(0, 1, 3) + x.drop(1) + x.status();
        for (int k = -1; k < 8; k++) {
            sum += x.plan(k) + x.talk(k) + x.can(k) + x.soon(k) + x.family(k, 1) + x.who(k, 0) + x.ban(k);
            sum += x.word(k, 3) + x.traveller(k, 2) + x.kind(k) + x.as(k, 1) + x.ask(k, 0) + x.ask(k, 1);
            sum += x.trace(k) + x.count(k) + x.image(k) + x.asks(k, k) + x.follows(k) + x.waits(k) + x.restore(k);
        }
        return sum + x.undo();
    }

    private static void longCallsEnd() {
        for (byte[] text : new byte[][] {WIDEST, HARDEST}) {
            HedgeGate x = new HedgeGate();
            for (byte b : text) {
                x.feed(b);
            }
            CHECK.due("travellers", x.hedge(), 5);
            long begun = System.nanoTime();
            for (int i = 0; i < 400; i++) {
                CHECK.holds("a plan", x.plan(-1) > 0);
            }
            CHECK.holds("400 plans within a minute", System.nanoTime() - begun < 60_000_000_000L);
        }
    }
}

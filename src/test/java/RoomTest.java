import com.sun.management.ThreadMXBean;
import java.lang.management.ManagementFactory;

/**
 * What a run of 512 calls makes has room many times over (rule 12 of LANGUAGE.md). An object takes 16 bytes at least,
 * and a field or an element one: so few bytes are at most 125,000 objects with 2,000,000 fields and elements.
 */
public final class RoomTest {
    private static final long MOST_BYTES = 2_000_000;
    private static final int MOST_CALLS = 512;
    private static final ThreadMXBean MEMORY = (ThreadMXBean) ManagementFactory.getThreadMXBean();

    public static void main(String[] args) {
        Checks c = new Checks();
        // The first time classes are loaded, which is not what the run makes.
        for (int k = 0; k < 2; k++) {
            long calls = bytesOfCalls();
            long types = bytesOfTypes();
            if (k == 1) {
                c.due("a run that passes a list makes " + calls + " bytes: few", calls <= MOST_BYTES, true);
                c.due("a run of refused types makes " + types + " bytes: few", types <= MOST_BYTES, true);
            }
        }
        c.end();
    }

    private static long bytesMade() {
        return MEMORY.getCurrentThreadAllocatedBytes();
    }

    /** A list as long as there is room for is passed again and again; the object has all that it can have. */
    private static long bytesOfCalls() {
        long before = bytesMade();
        World w = new World();
        int list = w.list(World.FLAG);
        for (int k = 14; k < 32; k++) {
            w.record(World.FLAG);
        }
        for (int k = 2; k < 6; k++) {
            w.x.instance();
        }
        int f = w.function(list, World.FLAG);
        w.x.write(w.a, 0, 4, 8 | 124 << 16);
        for (int used = 64; used + 4 <= MOST_CALLS; used += 4) {
            w.x.enter(w.a);
            w.x.call(f, list, 0);
            w.x.back(World.FLAG, 0);
            w.x.leave();
        }
        return bytesMade() - before;
    }

    /** A record of six parts that is too large: it is made, and looked at, before it is refused. */
    private static long bytesOfTypes() {
        long before = bytesMade();
        World w = new World();
        int large = w.record(World.LONG, World.LONG, World.LONG, World.LONG, World.LONG, World.LONG);
        for (int k = 0; k < 6; k++) {
            w.x.part(large);
        }
        for (int used = 30; used < MOST_CALLS; used++) {
            try {
                w.x.type(9, 0);
            } catch (IllegalArgumentException e) {
                continue;
            }
        }
        return bytesMade() - before;
    }
}

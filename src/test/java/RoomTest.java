import com.sun.management.ThreadMXBean;
import java.lang.management.ManagementFactory;

/** All calls of a run live in one room of 600,000 objects and arrays and 7.3 million fields and elements. */
public final class RoomTest {
    // No element takes less than a byte and no object less than twelve: who stays under this stays in the room.
    private static final long MOST_BYTES = 7_300_000L;
    private static final int CALLS = 512;
    private static final Check check = new Check();
    private static final ThreadMXBean meter = (ThreadMXBean) ManagementFactory.getThreadMXBean();

    public static void main(String[] args) {
        for (int kind = 0; kind < 4; kind++) {
            run(kind);
            long before = meter.getCurrentThreadAllocatedBytes();
            run(kind);
            long made = meter.getCurrentThreadAllocatedBytes() - before;
            check.same("a run of kind " + kind + " makes " + made + " bytes: in the room", made <= MOST_BYTES, true);
        }
        check.finish();
    }

    /** The dearest calls, three in a step, as many of them as an object is used for. */
    private static void run(int kind) {
        DecimalPatterns x = Use.withPattern("#,#." + "0".repeat(35) + "%");
        for (int calls = 43; calls + 3 <= CALLS; calls += 3) {
            step(x, kind, calls);
        }
    }

    private static void step(DecimalPatterns x, int kind, int calls) {
        switch (kind) {
            case 0:
                x.write(Long.MIN_VALUE, 0, DecimalPatterns.EXACT);
                x.write(Long.MAX_VALUE, calls % 19, DecimalPatterns.UP);
                x.write(Long.MIN_VALUE, 18, DecimalPatterns.HALF_EVEN);
                break;
            case 1:
                x.type('9');
                x.read();
                x.read();
                break;
            case 2:
                x.draft('a');
                x.apply();
                x.apply();
                break;
            default:
                x.symbol(5, calls % 2 == 0 ? 'a' : '0');
                x.write(Long.MAX_VALUE, 0, DecimalPatterns.EXACT);
                x.read();
        }
    }
}

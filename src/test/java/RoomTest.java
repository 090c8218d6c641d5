import com.sun.management.ThreadMXBean;
import java.lang.management.ManagementFactory;

/**
 * All calls of one run live in one room of some 600,000 objects and 7.3 million fields and elements. What the
 * machine can count are bytes: an object takes 16 of them at least, so that what takes fewer bytes fits in.
 */
public final class RoomTest {
    private static final long MOST_BYTES = 600_000L * 16;
    /** The document promises nothing behind the 512th call, and Prints.full() makes some 130 of them. */
    private static final int CALLS_OF_EACH = 256;

    public static void main(String[] args) {
        Checks checks = new Checks();
        ThreadMXBean threads = (ThreadMXBean) ManagementFactory.getThreadMXBean();
        if (!threads.isThreadAllocatedMemorySupported()) {
            System.out.println("this machine does not count what a thread makes: nothing is checked");
            return;
        }
        Checks.PrintCall[] calls = {
            ZonePrint::digest, ZonePrint::bestGrade, ZonePrint::bestTime, ZonePrint::plan, x -> x.expose(9),
            x -> x.burn(7, 99), x -> x.strip(0, 9, 9, 0), x -> x.ifExposed(99, 1), x -> x.ifBurned(1, 9, 1),
            x -> x.common(0), x -> x.zoneOf(1, 8), ZonePrint::firstError, x -> Checks.outcome(x::run).length(),
        };
        for (int call = 0; call < calls.length; call++) {
            long before = threads.getCurrentThreadAllocatedBytes();
            long sum = manyCalls(calls[call], Prints.full()) + manyCalls(calls[call], Prints.full());
            long made = threads.getCurrentThreadAllocatedBytes() - before;
            checks.isTrue("call " + call + " made " + made + " bytes (" + sum + ")", made < MOST_BYTES);
        }
        checks.end();
    }

    private static long manyCalls(Checks.PrintCall call, ZonePrint x) {
        long sum = 0;
        for (int time = 0; time < CALLS_OF_EACH; time++) {
            sum += call.answer(x);
        }
        return sum;
    }
}

import com.sun.management.ThreadMXBean;
import java.lang.management.ManagementFactory;

/** All calls of one run share one room: no call makes an object but the exception that it throws. */
public final class RoomTest {
    private static final String TEXT = "z0=0;z3=4;z6=8;z9=1;z12=5;z15=9;z18=2;z21=6;n01;n12;b0:9";

    public static void main(String[] args) {
        Checks checks = new Checks();
        ThreadMXBean threads = (ThreadMXBean) ManagementFactory.getThreadMXBean();
        if (!threads.isThreadAllocatedMemorySupported()) {
            System.out.println("this machine does not count what a thread makes: nothing is checked");
            return;
        }
        ZonePrint warm = new ZonePrint();
        long sum = useAll(warm);
        ZonePrint x = new ZonePrint();
        long before = threads.getCurrentThreadAllocatedBytes();
        for (int round = 0; round < 20; round++) {
            sum += useAll(x);
        }
        long made = threads.getCurrentThreadAllocatedBytes() - before;
        // The counting itself may make a little; 20 rounds of one object a call would make some 20000 bytes.
        checks.isTrue("made " + made + " bytes (" + sum + ")", made < 4000);
        before = threads.getCurrentThreadAllocatedBytes();
        ZonePrint y = new ZonePrint();
        made = threads.getCurrentThreadAllocatedBytes() - before;
        checks.isTrue("a new object makes " + made + " bytes (" + y.count(0) + ")", made < 8000);
        checks.end();
    }

    /** Calls every method, and takes back what can be undone. */
    private static long useAll(ZonePrint x) {
        x.clearBuffer();
        for (int place = 0; place < TEXT.length(); place++) {
            x.append(TEXT.charAt(place));
        }
        long sum = x.firstError() + x.digest() + x.run();
        sum += x.want(0, 3) + x.link(2, 3) + x.expose(77) + x.burn(1, 99) + x.hold(2, 9) + x.paper(3, 77);
        sum += x.plan() + x.set(20) + x.undo() + x.undo() + x.zoneOf(1, 8) + x.mark(3) + x.strip(1, 9, 9, 0);
        sum += x.count(9) + x.ifExposed(99, 1) + x.bestTime() + x.bestGrade() + x.ifBurned(1, 9, 1) + x.common(0);
        sum += (long) (x.rightShare() * 8) + x.digest();
        while (x.count(11) > 0) {
            x.undo();
        }
        return sum;
    }
}

import com.sun.management.ThreadMXBean;
import java.lang.management.ManagementFactory;

/** All calls of a run share one room: no call may make anything that stays or heaps up. */
public final class RoomTest {
    public static void main(String[] arguments) {
        StringShades warm = greenhouse();
        callAll(warm, 100);
        StringShades x = greenhouse();
        ThreadMXBean threads = (ThreadMXBean) ManagementFactory.getThreadMXBean();
        long self = Thread.currentThread().getId();
        threads.getThreadAllocatedBytes(self);
        long before = threads.getThreadAllocatedBytes(self);
        callAll(x, 100);
        long made = threads.getThreadAllocatedBytes(self) - before;
        Check.holds("2200 calls make nothing, but " + made + " bytes were made", made < 2200);
        Check.end();
    }

    private static StringShades greenhouse() {
        StringShades x = Check.withShades(6);
        x.string(21, 42);
        x.string(63, 0);
        x.string(1, 32);
        Check.type(x, "pull 0 9;drop 1 9;tell 5 5;pass 9;");
        return x;
    }

    private static void callAll(StringShades x, int times) {
        for (int i = 0; i < times; i++) {
            x.shade(6, 18);
            x.string(1, 2);
            x.undo();
            x.pull(1, 4);
            x.pull(0, 3);
            x.untie(0);
            x.tell(i % 6, i % 10);
            x.pass(24);
            x.set(0, 1 + i % 9);
            x.shadeOf(0, 4);
            x.stringOf(0, 3);
            x.groupAt(2);
            x.would(2, -9, 10);
            x.leastPulls(-1);
            x.reallyDo();
            x.bestHeight(1, 1);
            x.count(9);
            x.type(59);
            x.fault(2);
            x.play();
            x.untell();
            if (i % 20 == 19) {
                x.clearText();
            }
        }
    }
}

import com.sun.management.ThreadMXBean;
import java.lang.management.ManagementFactory;

/** All calls of a run share one room: no call may make anything that stays or heaps up. */
public final class RoomTest {
    private static final int OBJECTS = 6;
    private static final int TURNS = 20;
    private static final int CALLS = OBJECTS * TURNS * 21;

    public static void main(String[] arguments) {
        callAll(greenhouses());
        StringShades[] all = greenhouses();
        ThreadMXBean threads = (ThreadMXBean) ManagementFactory.getThreadMXBean();
        long self = Thread.currentThread().getId();
        threads.getThreadAllocatedBytes(self);
        long before = threads.getThreadAllocatedBytes(self);
        callAll(all);
        long made = threads.getThreadAllocatedBytes(self) - before;
        Check.holds(CALLS + " calls make nothing, but " + made + " bytes were made: that", made < CALLS);
        Check.end();
    }

    private static StringShades[] greenhouses() {
        StringShades[] all = new StringShades[OBJECTS];
        for (int place = 0; place < OBJECTS; place++) {
            all[place] = greenhouse();
        }
        return all;
    }

    private static StringShades greenhouse() {
        StringShades x = new StringShades();
        for (int shade = 0; shade < 6; shade++) {
            x.shade(6, 18);
        }
        x.string(21, 42);
        x.string(63, 0);
        x.string(1, 32);
        for (char sign : "pull 0 9;drop 1 9;tell 5 5;pass 9;".toCharArray()) {
            x.type(sign);
        }
        return x;
    }

    private static void callAll(StringShades[] all) {
        for (StringShades x : all) {
            for (int turn = 0; turn < TURNS; turn++) {
                callEach(x, turn);
            }
            x.clearText();
        }
    }

    private static void callEach(StringShades x, int turn) {
        x.shade(6, 18);
        x.string(1, 2);
        x.undo();
        x.pull(1, 4);
        x.pull(0, 3);
        x.untie(0);
        x.tell(turn % 6, turn % 10);
        x.pass(24);
        x.set(0, 1 + turn % 9);
        x.shadeOf(0, 4);
        x.stringOf(0, 3);
        x.groupAt(2);
        x.would(2, -9, 10);
        x.leastPulls(-1);
        x.reallyDo();
        x.bestHeight(1, 1);
        x.count(9);
        x.type(59);
        x.fault(2);
        x.play();
        x.untell();
    }
}

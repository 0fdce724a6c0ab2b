/** Promises 14 and 15: leastPulls and reallyDo. */
public final class LeastPullsTest {
    public static void main(String[] arguments) {
        arguments();
        nothingTold();
        oneWay();
        ofSeveralTheLowest();
        allOfAll();
        noneReach();
        heightsDoNotEnd();
        really();
        Check.end();
    }

    private static void all(Used x, int sum, int... steps) {
        Check.due("the least sum", x.leastPulls(-1), sum);
        for (int string = 0; string < steps.length; string++) {
            Check.due("the steps of " + string, x.leastPulls(string), steps[string] + 100);
        }
    }

    private static void none(Used x, int strings) {
        Check.due("no sum", x.leastPulls(-1), Check.NONE);
        for (int string = 0; string < strings; string++) {
            Check.due("no steps", x.leastPulls(string), Check.NONE);
        }
        Check.due("nothing to do", x.reallyDo(), Check.NONE);
    }

    private static void arguments() {
        Used x = Check.withShades(1);
        Check.due("no string 0", x.leastPulls(0), Check.INVALID);
        Check.due("-2", x.leastPulls(-2), Check.INVALID);
        x.string(1, 0);
        Check.due("no string 1", x.leastPulls(1), Check.INVALID);
        Check.due("least number", x.leastPulls(Integer.MIN_VALUE), Check.INVALID);
        Check.due("greatest number", x.leastPulls(Integer.MAX_VALUE), Check.INVALID);
    }

    private static void nothingTold() {
        Used x = Check.withShades(2);
        all(x, 0);
        Check.due("nothing is to do", x.reallyDo(), 1);
        x.tell(0, 0);
        all(x, 0);
        x.tell(1, 1);
        none(x, 0);
        x.tell(0, 1);
        x.tell(1, 0);
        none(x, 0);
        x.untell();
        x.string(1, 2);
        x.string(2, 1);
        all(x, 0, 0, 0);
        Check.due("reading is no change", x.count(11), 4);
    }

    private static void oneWay() {
        Used x = Check.withShades(3);
        x.string(1, 0);
        x.string(2, 0);
        x.string(0, 4);
        x.string(7, 0);
        x.tell(0, 5);
        all(x, 5, 0, 0, 0, 5);
        x.tell(1, 5);
        all(x, 5, 0, 0, 0, 5);
        x.tell(2, 5);
        all(x, 5, 0, 0, 0, 5);
        Check.due("as it is", x.reallyDo(), 1);
        x.tell(2, 6);
        all(x, 6, 0, 0, -1, 5);
        Check.due("by 1, and let go", x.reallyDo(), 1);
        x.tell(0, 6);
        x.tell(2, 5);
        all(x, 6, 1, 0, 0, 5);
        Check.due("by 1", x.reallyDo(), 1);
        x.tell(0, 5);
        x.tell(2, 3);
        all(x, 7, 0, 0, 2, 5);
        Check.due("2 cannot go down ahead of going up", x.reallyDo(), 0);
        x.tell(1, 4);
        x.tell(2, 5);
        all(x, 6, 0, -1, 0, 5);
        Check.due("1 cannot go down first", x.reallyDo(), 0);
    }

    private static void ofSeveralTheLowest() {
        Used x = Check.withShades(2);
        x.string(1, 0);
        x.string(1, 0);
        x.string(0, 1);
        x.tell(0, 3);
        all(x, 3, 0, 0, -3);
        Check.due("let go of what pulls down", x.reallyDo(), 1);
        x.pull(0, 8);
        all(x, 5, -5, 0, 0);
        Check.due("down at once", x.reallyDo(), 1);

        Used y = Check.withShades(2);
        y.string(3, 0);
        y.string(1, 2);
        y.string(1, 0);
        y.string(2, 0);
        y.tell(0, 4);
        y.tell(1, 4);
        all(y, 4, 4, 0, 0, 0);
        y.tell(0, 5);
        y.tell(1, 1);
        all(y, 5, 1, 0, 4, 0);
        y.tell(0, 1);
        y.tell(1, 4);
        all(y, 4, 1, 0, 0, 3);
    }

    private static void allOfAll() {
        Used x = Check.withShades(8);
        x.string(0x11, 0);
        x.string(0x22, 0);
        x.string(0, 0x44);
        x.string(0x80, 0x08);
        for (int shade = 0; shade < 8; shade++) {
            x.tell(shade, 9);
        }
        none(x, 4);
        x.pull(3, -9);
        x.tell(3, 0);
        all(x, 36, 9, 9, -9, 9);
        Check.due("up and let go", x.reallyDo(), 1);
        x.tell(7, 0);
        none(x, 4);
        x.tell(3, 9);
        all(x, 27, 9, 9, -9, 0);
    }

    private static void noneReach() {
        Used x = Check.withShades(2);
        x.string(1, 2);
        x.tell(0, 3);
        all(x, 3, 3);
        x.tell(1, 3);
        none(x, 1);
        x.tell(1, 0);
        none(x, 1);
        x.tell(0, 0);
        all(x, 0, 0);

        // what 0 and 1 need is no even number together
        Used y = Check.withShades(2);
        y.string(3, 0);
        y.string(1, 2);
        y.tell(0, 4);
        y.tell(1, 1);
        none(y, 2);
        y.tell(1, 2);
        all(y, 4, 3, 1);
    }

    private static void heightsDoNotEnd() {
        Used x = Check.withShades(2);
        x.string(1, 2);
        x.string(3, 0);
        x.tell(0, 0);
        x.tell(1, 8);
        all(x, 8, -4, 4);
        Check.due("0 cannot go below 0", x.reallyDo(), 0);
        Check.due("as a pull shows", x.would(0, -4, 10), 0);
        x.tell(0, 9);
        x.tell(1, 9);
        all(x, 9, 0, 9);
        Check.due("up", x.reallyDo(), 1);

        // from each string's most steps to more than that
        Used y = Check.withShades(3);
        y.string(1, 0);
        y.string(3, 0);
        y.string(2, 4);
        y.tell(0, 9);
        all(y, 9, 0, 9, 0);
        y.tell(1, 0);
        y.tell(2, 9);
        all(y, 18, 0, 9, -9);
        y.pull(0, 9);
        all(y, 27, -9, 9, -9);
        y.tell(0, 8);
        none(y, 3);
    }

    private static void really() {
        Used x = Check.withShades(2);
        x.string(3, 0);
        x.string(1, 2);
        x.pull(0, 4);
        x.tell(0, 7);
        x.tell(1, 1);
        all(x, 3, 0, 3);
        Check.due("a knot comes", x.reallyDo(), 0);
        Check.due("nothing is done", x.shadeOf(0, 0), 4);
        x.set(0, 6);
        Check.due("no knot comes too early", x.reallyDo(), 1);
        x.set(0, 7);
        Check.due("none at all", x.reallyDo(), 1);
        x.set(0, 1);
        x.pull(1, 1);
        x.tell(0, 9);
        x.tell(1, 7);
        all(x, 4, 4, 0);
        Check.due("together with their knot", x.reallyDo(), 1);
        x.tell(1, 5);
        all(x, 4, 3, 1);
        Check.due("a knot that is there", x.reallyDo(), 0);
        Check.due("no jams are counted", x.stringOf(1, 3), 0);
    }
}

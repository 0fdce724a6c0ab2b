/** Promise 10: shadeOf. */
public final class ShadeOfTest {
    public static void main(String[] arguments) {
        Used x = new Used();
        Check.due("no shade", x.shadeOf(0, 0), Check.INVALID);
        x.shade(7, 20);
        x.shade(9, 10);
        x.shade(12, 30);
        x.shade(23, 35);
        Check.due("shade -1", x.shadeOf(-1, 0), Check.INVALID);
        Check.due("shade 4", x.shadeOf(4, 0), Check.INVALID);
        Check.due("what -1", x.shadeOf(0, -1), Check.INVALID);
        Check.due("what 10", x.shadeOf(0, 10), Check.INVALID);
        Check.due("least numbers", x.shadeOf(Integer.MIN_VALUE, Integer.MIN_VALUE), Check.INVALID);
        Check.due("greatest numbers", x.shadeOf(Integer.MAX_VALUE, Integer.MAX_VALUE), Check.INVALID);

        x.string(7, 0);
        x.string(2, 4);
        x.pull(0, 4);
        x.pull(1, 3);
        all(x, 0, 4, 7, 20, 0, 1, 15, 0, 0, Check.NONE, Check.NONE);
        all(x, 1, 6, 9, 10, 2, 6, 3, 0, 0, Check.NONE, Check.NONE);
        all(x, 2, 2, 12, 30, 0, 6, 0, 0, 0, Check.NONE, Check.NONE);
        all(x, 3, 0, 23, 35, 0, 8, 0, 0, 0, Check.NONE, Check.NONE);

        x.tell(0, 4);
        x.tell(1, 5);
        x.tell(2, 2);
        x.tell(3, 9);
        Check.due("0 is well once, 1 twice", x.pass(3), 3);
        all(x, 0, 4, 7, 20, 0, 1, 10, 15 + 20 + 15, 1, 4, 1);
        all(x, 1, 6, 9, 10, 2, 6, 12, 3 + 6 + 9, 2, 5, 2);
        all(x, 2, 2, 12, 30, 0, 6, 7, 0, 0, 2, 1);
        all(x, 3, 0, 23, 35, 0, 8, 0, 0, 0, 9, 0);
        x.tell(2, 0);
        Check.due("the upper one of a knot is tangled", x.shadeOf(2, 9), 2);
        Check.due("told 0 is told", x.shadeOf(2, 8), 0);
        x.tell(0, 0);
        Check.due("a neighbor of the tangled is not", x.shadeOf(0, 9), 0);
        Check.due("reading is no change", x.undo(), 3);
        aKnotOfDepthOne();
        Check.end();
    }

    private static void aKnotOfDepthOne() {
        Used x = Check.withShades(2);
        x.string(3, 0);
        x.string(1, 2);
        x.pull(0, 4);
        x.pull(1, 2);
        x.tell(0, 0);
        x.tell(1, 0);
        all(x, 0, 6, 6, 18, 1, 3, 12, 0, 0, 0, 2);
        all(x, 1, 2, 6, 18, 0, 3, 28, 0, 0, 0, 2);
    }

    private static void all(Used x, int shade, int... due) {
        for (int what = 0; what < due.length; what++) {
            Check.due("shadeOf(" + shade + ", " + what + ")", x.shadeOf(shade, what), due[what]);
        }
    }
}

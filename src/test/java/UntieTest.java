/** Promise 5: untie. */
public final class UntieTest {
    public static void main(String[] arguments) {
        Used x = new Used();
        Check.due("no shade", x.untie(0), Check.INVALID);
        x.shade(6, 18);
        Check.due("none behind 0", x.untie(0), Check.INVALID);
        x.shade(6, 18);
        x.shade(6, 18);
        Check.due("shade -1", x.untie(-1), Check.INVALID);
        Check.due("none behind 2", x.untie(2), Check.INVALID);
        Check.due("no shade 3", x.untie(3), Check.INVALID);
        Check.due("least number", x.untie(Integer.MIN_VALUE), Check.INVALID);
        Check.due("greatest number", x.untie(Integer.MAX_VALUE), Check.INVALID);
        Check.due("no knot", x.untie(0), Check.IMPOSSIBLE);
        Check.due("no knot", x.untie(1), Check.IMPOSSIBLE);
        Check.due("errors record nothing", x.count(11), 3);
        unties();
        needsLikeHeights();
        Check.end();
    }

    private static Used knotOf(int difference) {
        Used x = Check.withShades(3);
        x.string(6, 0);
        x.string(2, 4);
        x.string(2, 0);
        x.pull(0, 4);
        x.pull(2, difference % 2);
        x.set(0, Math.max(1, difference));
        x.pull(1, difference == 1 ? -1 : difference / 2);
        Check.due("a knot behind 1", x.shadeOf(1, 3), 1);
        Check.due("apart", Math.abs(x.shadeOf(1, 0) - x.shadeOf(2, 0)), difference);
        return x;
    }

    private static void unties() {
        Used x = knotOf(1);
        x.pull(1, 1);
        Check.due("a jam", x.shadeOf(1, 3), 2);
        Check.due("the knot is behind 1", x.untie(0), Check.IMPOSSIBLE);
        Check.due("by 1", x.untie(1), 1);
        Check.due("the depth", x.shadeOf(1, 3), 1);
        Check.due("still together", x.shadeOf(1, 4), 6);
        Check.due("gone", x.untie(1), 0);
        Check.due("no longer together", x.shadeOf(1, 4), 2);
        Check.due("no knots", x.count(2), 0);
        Check.due("nothing left to untie", x.untie(1), Check.IMPOSSIBLE);
        Check.due("one came all the same", x.count(10), 1);
        Check.due("it can be taken back", x.undo(), 3);
        Check.due("the knot is there again", x.shadeOf(1, 3), 1);
        x.undo();
        Check.due("as deep as it was", x.shadeOf(1, 3), 2);
    }

    private static void needsLikeHeights() {
        Used x = knotOf(2);
        Check.due("apart by 2", x.untie(1), Check.IMPOSSIBLE);
        Check.due("the knot stays", x.shadeOf(1, 3), 1);
        Used y = knotOf(3);
        Check.due("apart by 3", y.untie(1), Check.IMPOSSIBLE);

        Used z = Check.withShades(2);
        z.string(3, 0);
        z.string(1, 2);
        z.set(0, 1);
        z.pull(0, 3);
        z.pull(1, -1);
        Check.due("the upper one higher by 2", z.untie(0), Check.IMPOSSIBLE);
        Used level = Check.withShades(2);
        level.string(1, 0);
        level.string(2, 1);
        level.set(0, 1);
        level.pull(0, 3);
        level.pull(1, 1);
        Check.due("2 and 1", level.shadeOf(0, 3), 1);
        Check.due("the lower one higher by 1", level.untie(0), 0);
    }
}

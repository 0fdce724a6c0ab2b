/** Promise 13: would. */
public final class WouldTest {
    public static void main(String[] arguments) {
        Used x = new Used();
        Check.due("no string", x.would(0, 1, 0), Check.INVALID);
        for (int shade = 0; shade < 3; shade++) {
            x.shade(6, 18);
        }
        x.string(3, 0);
        x.string(1, 2);
        x.string(4, 0);
        wrong(x);
        x.pull(0, 4);
        x.tell(0, 6);
        x.tell(1, 2);
        int states = x.count(11);

        Check.due("0 and 1 would move", x.would(1, 2, 0), 3);
        Check.due("there would be a knot", x.would(1, 2, 1), 1);
        Check.due("no jam", x.would(1, 2, 2), 0);
        Check.due("both where told", x.would(1, 2, 3), 2);
        Check.due("the height of 0", x.would(1, 2, 10), 6);
        Check.due("the height of 1", x.would(1, 2, 11), 2);
        Check.due("the height of 2", x.would(1, 2, 12), 0);
        Check.due("by 1 there would be none", x.would(1, 1, 1), 0);
        Check.due("nor any where told", x.would(1, 1, 3), 0);
        Check.due("by 9 there would be jams", x.would(1, 9, 2), 7);
        Check.due("let go, only 0", x.would(1, -9, 10), 2);
        Check.due("let go, and 1", x.would(1, -9, 11), 6);
        Check.due("2 alone", x.would(2, 9, 0), 4);
        Check.due("2 is open", x.would(2, -9, 0), 0);

        Check.due("nothing was recorded", x.count(11), states);
        Check.due("nothing moved", x.shadeOf(0, 0), 4);
        Check.due("no knot came", x.count(10), 0);
        Check.due("no steps", x.stringOf(1, 2), 100000);
        x.pull(1, 9);
        Check.due("jams so far", x.stringOf(1, 3), 7);
        Check.due("only those of the pull", x.would(1, 3, 2), 3);
        Check.due("the knot that is there", x.would(2, 1, 1), 1);
        Check.end();
    }

    private static void wrong(Used x) {
        Check.due("string -1", x.would(-1, 1, 0), Check.INVALID);
        Check.due("string 3", x.would(3, 1, 0), Check.INVALID);
        Check.due("0 steps", x.would(0, 0, 0), Check.INVALID);
        Check.due("10 steps", x.would(0, 10, 0), Check.INVALID);
        Check.due("-10 steps", x.would(0, -10, 0), Check.INVALID);
        Check.due("what -1", x.would(0, 1, -1), Check.INVALID);
        Check.due("what 4", x.would(0, 1, 4), Check.INVALID);
        Check.due("what 9", x.would(0, 1, 9), Check.INVALID);
        Check.due("what 13", x.would(0, 1, 13), Check.INVALID);
        Check.due("what 10 as last", x.would(0, 1, 12), 0);
        Check.due("least what", x.would(0, 1, Integer.MIN_VALUE), Check.INVALID);
        Check.due("a what that wraps around to shade 0", x.would(0, 1, Integer.MIN_VALUE + 10), Check.INVALID);
        Check.due("greatest numbers",
                x.would(Integer.MAX_VALUE, Integer.MAX_VALUE, Integer.MAX_VALUE), Check.INVALID);
    }
}

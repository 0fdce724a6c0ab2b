/** Promise 11: stringOf. */
public final class StringOfTest {
    public static void main(String[] arguments) {
        Used x = Check.withShades(3);
        Check.due("no string", x.stringOf(0, 0), Check.INVALID);
        x.string(1, 6);
        x.string(0, 2);
        x.string(1, 2);
        Check.due("string -1", x.stringOf(-1, 0), Check.INVALID);
        Check.due("string 3", x.stringOf(3, 0), Check.INVALID);
        Check.due("what -1", x.stringOf(0, -1), Check.INVALID);
        Check.due("what 4", x.stringOf(0, 4), Check.INVALID);
        Check.due("least numbers", x.stringOf(Integer.MIN_VALUE, Integer.MIN_VALUE), Check.INVALID);
        Check.due("greatest numbers", x.stringOf(Integer.MAX_VALUE, Integer.MAX_VALUE), Check.INVALID);
        Check.due("up", x.stringOf(0, 0), 1);
        Check.due("down", x.stringOf(0, 1), 6);
        Check.due("no ups", x.stringOf(1, 0), 0);
        Check.due("down", x.stringOf(1, 1), 2);

        x.pull(0, 9);
        x.pull(0, -3);
        Check.due("9 less 3", x.stringOf(0, 2), 100006);
        Check.due("no other one", x.stringOf(1, 2), 100000);
        Check.due("a knot in the first step of letting go, then jams", x.stringOf(0, 3), 2);
        x.pull(1, -9);
        x.pull(1, -9);
        Check.due("let go", x.stringOf(1, 2), 99982);
        Check.due("no jams", x.stringOf(1, 3), 0);
        x.pull(2, 3);
        Check.due("pulled", x.stringOf(2, 2), 100003);
        Check.due("jams by the knot of another string", x.stringOf(2, 3), 3);
        Check.due("no more than before", x.stringOf(0, 3), 2);
        Check.due("reading is no change", x.count(11), 4);
        x.undo();
        Check.due("jams are taken back", x.stringOf(2, 3), 0);
        Check.due("steps too", x.stringOf(2, 2), 100000);
        Check.end();
    }
}

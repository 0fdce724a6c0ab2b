/** Promise 17: count. */
public final class CountTest {
    public static void main(String[] arguments) {
        Used x = new Used();
        Check.due("count(-1)", x.count(-1), Check.INVALID);
        for (int what = 13; what < 20; what++) {
            Check.due("count(" + what + ")", x.count(what), Check.INVALID);
        }
        Check.due("count(22)", x.count(22), Check.INVALID);
        Check.due("least number", x.count(Integer.MIN_VALUE), Check.INVALID);
        Check.due("greatest number", x.count(Integer.MAX_VALUE), Check.INVALID);

        for (int shade = 0; shade < 5; shade++) {
            x.shade(6, 18);
        }
        x.string(31, 0);
        x.string(1, 2);
        x.string(8, 16);
        x.pull(0, 4);
        x.pull(1, 3);
        x.pull(2, 4);
        x.pass(20);
        x.tell(0, 6);
        x.tell(1, 0);
        x.tell(2, 0);
        x.tell(3, 0);
        x.set(0, 7);
        x.set(1, 8);
        Check.type(x, "pass 1");
        int[] due = {5, 3, 2, 2 + 3, 3, 2, 20, 4, 1, 2, 2, 4, 6};
        for (int what = 0; what < due.length; what++) {
            Check.due("count(" + what + ")", x.count(what), due[what]);
        }
        Check.due("count(20)", x.count(20), 7);
        Check.due("count(21)", x.count(21), 8);
        x.tell(4, 2);
        Check.due("five are told", x.count(7), 5);
        Check.due("two stand", x.count(8), 2);
        Check.due("those that stand are not counted as tangled", x.count(9), 2);

        Used y = Check.withShades(3);
        y.string(7, 0);
        y.string(1, 2);
        y.pull(0, 4);
        y.pull(1, 2);
        Check.due("one knot", y.count(2), 1);
        Check.due("of depth 1", y.count(3), 1);
        y.tell(0, 0);
        Check.due("astray and tangled", y.count(9), 1);
        y.tell(2, 0);
        Check.due("astray alone", y.count(9), 1);
        y.tell(1, 0);
        Check.due("both of the knot", y.count(9), 2);
        y.tell(0, 6);
        Check.due("one of them stands", y.count(9), 1);
        y.untell();
        Check.due("tangled alone", y.count(9), 0);
        Check.end();
    }
}

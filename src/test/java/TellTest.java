/** Promises 6 and 7: tell and untell. */
public final class TellTest {
    public static void main(String[] arguments) {
        Used x = new Used();
        Check.due("no shade", x.tell(0, 0), Check.INVALID);
        Check.due("nothing to forget", x.untell(), 0);
        Check.due("a change all the same", x.count(11), 1);
        x.shade(6, 18);
        x.shade(6, 18);
        x.string(2, 0);
        Check.due("shade -1", x.tell(-1, 0), Check.INVALID);
        Check.due("shade 2", x.tell(2, 0), Check.INVALID);
        Check.due("height -1", x.tell(0, -1), Check.INVALID);
        Check.due("height 10", x.tell(0, 10), Check.INVALID);
        Check.due("least numbers", x.tell(Integer.MIN_VALUE, Integer.MIN_VALUE), Check.INVALID);
        Check.due("greatest numbers", x.tell(Integer.MAX_VALUE, Integer.MAX_VALUE), Check.INVALID);
        Check.due("errors tell nothing", x.count(7), 0);
        Check.due("errors record nothing", x.count(11), 4);

        Check.due("open as told", x.tell(0, 0), 1);
        Check.due("closed is told", x.tell(1, 9), 1);
        Check.due("the height told", x.shadeOf(1, 8), 9);
        Check.due("two are told", x.count(7), 2);
        Check.due("told again", x.tell(1, 0), 2);
        Check.due("still two", x.count(7), 2);
        Check.due("told off", x.tell(0, 1), 1);
        x.pull(0, 3);
        Check.due("where told now", x.tell(1, 3), 1);

        Check.due("forgets both", x.untell(), 2);
        Check.due("none is told", x.count(7), 0);
        Check.due("none of 0", x.shadeOf(0, 8), Check.NONE);
        Check.due("none of 1", x.shadeOf(1, 9), Check.NONE);
        Check.due("none again", x.untell(), 0);
        Check.due("forgetting none is a change", x.undo(), 3);
        Check.due("still none", x.count(7), 0);
        Check.due("taken back", x.undo(), 2);
        Check.due("both are told again", x.count(7), 2);
        Check.end();
    }
}

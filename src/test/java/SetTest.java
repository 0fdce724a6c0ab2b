/** Promise 9: set. */
public final class SetTest {
    public static void main(String[] arguments) {
        Used x = new Used();
        Check.due("setting -1", x.set(-1, 4), Check.INVALID);
        Check.due("setting 2", x.set(2, 4), Check.INVALID);
        Check.due("difference 0", x.set(0, 0), Check.INVALID);
        Check.due("difference 10", x.set(0, 10), Check.INVALID);
        Check.due("leeway -1", x.set(1, -1), Check.INVALID);
        Check.due("leeway 37", x.set(1, 37), Check.INVALID);
        Check.due("least numbers", x.set(Integer.MIN_VALUE, Integer.MIN_VALUE), Check.INVALID);
        Check.due("greatest number", x.set(1, Integer.MAX_VALUE), Check.INVALID);
        Check.due("errors record nothing", x.count(11), 0);
        Check.due("the difference stays", x.count(20), 4);
        Check.due("the leeway stays", x.count(21), 4);

        Check.due("it was 4", x.set(0, 1), 4);
        Check.due("it was 1", x.set(0, 9), 1);
        Check.due("it is 9", x.count(20), 9);
        Check.due("the other one is not", x.count(21), 4);
        Check.due("it was 4", x.set(1, 0), 4);
        Check.due("it was 0", x.set(1, 36), 0);
        Check.due("it is 36", x.count(21), 36);
        Check.due("it was 36", x.set(1, 36), 36);
        Check.due("the same value is a change", x.undo(), 3);
        x.undo();
        Check.due("taken back", x.count(21), 0);
        Check.end();
    }
}

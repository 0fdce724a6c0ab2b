/** Promise 1, and the constants of the face. */
public final class NewObjectTest {
    public static void main(String[] arguments) {
        Check.due("INVALID_ARGUMENT", StringShades.INVALID_ARGUMENT, Check.INVALID);
        Check.due("NOT_POSSIBLE", StringShades.NOT_POSSIBLE, Check.IMPOSSIBLE);
        Check.due("LIMIT_REACHED", StringShades.LIMIT_REACHED, Check.LIMIT);
        Check.due("NOT_FOUND", StringShades.NOT_FOUND, Check.NONE);

        Used x = new Used();
        int[] counts = {0, 0, 0, 0, 0, 6, 0, 0, 0, 0, 0, 0, 0};
        for (int what = 0; what < counts.length; what++) {
            Check.due("count(" + what + ")", x.count(what), counts[what]);
        }
        Check.due("the difference for a knot", x.count(20), 4);
        Check.due("the leeway of plants", x.count(21), 4);
        Check.due("no shade", x.shadeOf(0, 0), Check.INVALID);
        Check.due("no string", x.stringOf(0, 0), Check.INVALID);
        Check.due("no group", x.groupAt(0), Check.NONE);
        Check.due("no history", x.undo(), Check.IMPOSSIBLE);
        Check.due("no fault", x.fault(0), Check.NONE);

        Used other = Check.withShades(2);
        Check.due("objects are apart", x.count(0), 0);
        Check.due("objects are apart", other.count(0), 2);
        Check.end();
    }
}

/** Promise 12: groupAt. */
public final class GroupAtTest {
    public static void main(String[] arguments) {
        Used x = new Used();
        Check.due("place -1", x.groupAt(-1), Check.INVALID);
        Check.due("least place", x.groupAt(Integer.MIN_VALUE), Check.INVALID);
        Check.due("no group", x.groupAt(0), Check.NONE);
        Check.due("greatest place", x.groupAt(Integer.MAX_VALUE), Check.NONE);
        for (int shade = 0; shade < 7; shade++) {
            x.shade(6, 18);
        }
        all(x, 1, 2, 4, 8, 16, 32, 64);
        x.string(0x7F, 0);
        x.string(0x02, 0x05);
        x.string(0x40, 0x20);
        x.pull(0, 4);
        x.pull(1, 2);
        all(x, 7, 8, 16, 32, 64);
        x.pull(2, 2);
        all(x, 7, 8, 16, 96);
        x.undo();
        all(x, 7, 8, 16, 32, 64);
        Check.end();
    }

    private static void all(Used x, int... due) {
        for (int place = 0; place < due.length; place++) {
            Check.due("groupAt(" + place + ")", x.groupAt(place), due[place]);
        }
        Check.due("no more", x.groupAt(due.length), Check.NONE);
        Check.due("how many", x.count(4), due.length);
    }
}

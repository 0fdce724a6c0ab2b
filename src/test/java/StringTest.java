/** Promise 3: string. */
public final class StringTest {
    public static void main(String[] arguments) {
        Used x = Check.withShades(3);
        Check.due("no shade 3 to pull up", x.string(8, 0), Check.INVALID);
        Check.due("no shade 3 to pull down", x.string(0, 8), Check.INVALID);
        Check.due("a shade that is and one that is not", x.string(9, 2), Check.INVALID);
        Check.due("bit 31", x.string(Integer.MIN_VALUE, 0), Check.INVALID);
        Check.due("all bits", x.string(1, -2), Check.INVALID);
        Check.due("the same shade up and down", x.string(3, 6), Check.INVALID);
        Check.due("both empty", x.string(0, 0), Check.INVALID);
        Check.due("errors add none", x.count(1), 0);
        Check.due("errors record nothing", x.count(11), 3);

        Check.due("string(5, 2)", x.string(5, 2), 0);
        Check.due("its ups", x.stringOf(0, 0), 5);
        Check.due("its downs", x.stringOf(0, 1), 2);
        Check.due("not pulled yet", x.stringOf(0, 2), 100000);
        Check.due("no jams yet", x.stringOf(0, 3), 0);
        Check.due("only up", x.string(7, 0), 1);
        Check.due("only down", x.string(0, 7), 2);
        Check.due("as one before", x.string(5, 2), 3);
        Check.due("a fifth string", x.string(1, 0), Check.LIMIT);
        Check.due("a wrong fifth string", x.string(0, 0), Check.INVALID);
        Check.due("there are 4", x.count(1), 4);

        Used full = Check.withShades(8);
        Check.due("all eight shades", full.string(0xAA, 0x55), 0);
        Check.due("a ninth shade", full.string(256, 0), Check.INVALID);
        Check.end();
    }
}

/** Promise 13: would. */
public final class WouldTest {
    public static void main(String[] arguments) {
        Used x = new Used();
        Check.due("no string", x.would(0, 1, 0), Check.INVALID);
        for (int shade = 0; shade < 3; shade++) {
            x.shade(6, 18);
        }
        x.string(3, 0);
        x.string(1, 2);
        x.string(4, 0);
        wrong(x);
        x.pull(0, 4);
        x.tell(0, 6);
        x.tell(1, 2);
        int states = x.count(11);

        Check.due("0 and 1 would move", x.would(1, 2, 0), 3);
        Check.due("there would be a knot", x.would(1, 2, 1), 1);
        Check.due("no jam", x.would(1, 2, 2), 0);
        Check.due("both where told", x.would(1, 2, 3), 2);
        Check.due("the height of 0", x.would(1, 2, 10), 6);
        Check.due("the height of 1", x.would(1, 2, 11), 2);
        Check.due("the height of 2", x.would(1, 2, 12), 0);
        Check.due("by 1 there would be none", x.would(1, 1, 1), 0);
        Check.due("nor any where told", x.would(1, 1, 3), 0);
        Check.due("by 9 there would be jams", x.would(1, 9, 2), 7);
        Check.due("let go, only 0", x.would(1, -9, 10), 2);
        Check.due("let go, and 1", x.would(1, -9, 11), 6);
        Check.due("2 alone", x.would(2, 9, 0), 4);
        Check.due("2 is open", x.would(2, -9, 0), 0);

        Check.due("nothing was recorded", x.count(11), states);
        Check.due("nothing moved", x.shadeOf(0, 0), 4);
        Check.due("no knot came", x.count(10), 0);
        Check.due("no steps", x.stringOf(1, 2), 100000);
        x.pull(1, 9);
        Check.due("jams so far", x.stringOf(1, 3), 7);
        Check.due("only those of the pull", x.would(1, 3, 2), 3);
        Check.due("the knot that is there", x.would(2, 1, 1), 1);
        asAPullDoes();
        ends();
        Check.end();
    }

    /** "Tells what a pull would do": each string and all steps, against a greenhouse in which it is done. */
    private static void asAPullDoes() {
        String[] greenhouses = {
            "shade(6,18) string(1,0) string(0,1) tell(0,9)",
            "shade(6,18) shade(6,18) string(3,0) string(1,2) string(2,0) set(0,2) pull(0,5) tell(0,7) tell(1,3)",
            "shade(6,18) shade(6,18) shade(6,18) string(7,0) string(5,2) string(1,4) set(0,2) pull(0,4) pull(1,1) "
                + "tell(0,9) tell(2,0)",
            "shade(6,18) shade(6,18) shade(6,18) shade(6,18) string(15,0) string(5,10) string(9,6) string(8,1) "
                + "set(0,3) pull(0,7) pull(2,2) tell(1,2) tell(3,9)",
        };
        for (String greenhouse : greenhouses) {
            Used size = new Used(greenhouse);
            for (int string = 0; string < size.count(1); string++) {
                for (int steps = -9; steps <= 9; steps++) {
                    if (steps != 0) {
                        asThePull(greenhouse, string, steps);
                    }
                }
            }
        }
    }

    private static void asThePull(String greenhouse, int string, int steps) {
        Used would = new Used(greenhouse);
        Used pulled = new Used(greenhouse);
        int jams = pulled.stringOf(string, 3);
        String call = greenhouse + " would(" + string + "," + steps + ",";
        Check.due(call + "0)", would.would(string, steps, 0), pulled.pull(string, steps));
        Check.due(call + "1)", would.would(string, steps, 1), pulled.count(2));
        Check.due(call + "2)", would.would(string, steps, 2), pulled.stringOf(string, 3) - jams);
        Check.due(call + "3)", would.would(string, steps, 3), pulled.count(8));
        for (int shade = 0; shade < pulled.count(0); shade++) {
            Check.due(call + (10 + shade) + ")", would.would(string, steps, 10 + shade), pulled.shadeOf(shade, 0));
        }
        Look.same(call + ")", Look.at(would), Look.at(new Used(greenhouse)));
    }

    /** At 9 and 0, with no height told, and with all 8 shades. */
    private static void ends() {
        new Used("shade(6,18) string(1,0) would(0,-1,0)=0 would(0,-1,10)=0 would(0,9,0)=1 would(0,9,10)=9 "
                + "would(0,1,3)=0 pull(0,9) would(0,1,0)=0 would(0,9,10)=9 would(0,-9,10)=0 would(0,-1,10)=8 "
                + "would(0,1,2)=0");
        new Used("shade(6,18) ".repeat(8) + "string(255,0) would(0,9,0)=255 would(0,9,10)=9 would(0,1,17)=1 "
                + "would(0,1,18)=INVALID would(0,1,9)=INVALID would(0,1,4)=INVALID");
    }

    private static void wrong(Used x) {
        Check.due("string -1", x.would(-1, 1, 0), Check.INVALID);
        Check.due("string 3", x.would(3, 1, 0), Check.INVALID);
        Check.due("0 steps", x.would(0, 0, 0), Check.INVALID);
        Check.due("10 steps", x.would(0, 10, 0), Check.INVALID);
        Check.due("-10 steps", x.would(0, -10, 0), Check.INVALID);
        Check.due("what -1", x.would(0, 1, -1), Check.INVALID);
        Check.due("what 4", x.would(0, 1, 4), Check.INVALID);
        Check.due("what 9", x.would(0, 1, 9), Check.INVALID);
        Check.due("what 13", x.would(0, 1, 13), Check.INVALID);
        Check.due("what 10 as last", x.would(0, 1, 12), 0);
        Check.due("least what", x.would(0, 1, Integer.MIN_VALUE), Check.INVALID);
        Check.due("a what that wraps around to shade 0", x.would(0, 1, Integer.MIN_VALUE + 10), Check.INVALID);
        Check.due("greatest numbers",
                x.would(Integer.MAX_VALUE, Integer.MAX_VALUE, Integer.MAX_VALUE), Check.INVALID);
    }
}

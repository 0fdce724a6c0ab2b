/**
 * "INVALID_ARGUMENT if an argument is out of range": each argument of each call, at every number
 * around its range, both ends and those just below and just above them among these, and far from it.
 */
public final class ArgumentsTest {
    private static final int[] FAR = {Integer.MIN_VALUE, Integer.MIN_VALUE + 1, Integer.MIN_VALUE + 10,
        -65536, -256, 256, 65536, 65536 + 32, 1 << 30, Integer.MAX_VALUE - 10, Integer.MAX_VALUE - 1,
        Integer.MAX_VALUE};

    public static void main(String[] arguments) {
        ofNewThings();
        for (int shades = 1; shades <= 8; shades++) {
            ofShades(shades);
        }
        for (int strings = 1; strings <= 4; strings++) {
            ofStrings(strings);
        }
        ofThePlace();
        ofSettings();
        ofCounts();
        ofTexts();
        Check.end();
    }

    /** The call's # is to be taken from low to high; a second range may follow it. */
    private static void range(String before, String call, int low, int high) {
        range(before, call, low, high, 1, 0);
    }

    private static void range(String before, String call, int low, int high, int low2, int high2) {
        for (int number = -45; number <= 140; number++) {
            boolean within = number >= low && number <= high || number >= low2 && number <= high2;
            answersInvalid(before, call.replace("#", "" + number), !within);
        }
        for (int number : FAR) {
            answersInvalid(before, call.replace("#", "" + number), true);
        }
    }

    private static void answersInvalid(String before, String call, boolean due) {
        Used x = new Used(before);
        int answer = x.answerTo(call);
        Check.holds(before + call + " answered " + answer + ", which", due == (answer == Check.INVALID));
    }

    private static String withShades(int many) {
        return "shade(6,18) ".repeat(many);
    }

    /** hour: 0 to 23, want: 0 to 36. */
    private static void ofNewThings() {
        for (int shades = 0; shades < 8; shades += 7) {
            range(withShades(shades), "shade(#,18)", 0, 23);
            range(withShades(shades), "shade(6,#)", 0, 36);
            range(withShades(shades), "shade(#,0)", 0, 23);
            range(withShades(shades), "shade(23,#)", 0, 36);
        }
    }

    /** "If there is no shade or string with a certain number, this is INVALID_ARGUMENT." */
    private static void ofShades(int shades) {
        String all = withShades(shades) + "string(1,0)=0 ";
        range(all, "tell(#,0)", 0, shades - 1);
        range(all, "tell(#,9)", 0, shades - 1);
        range(all, "shadeOf(#,0)", 0, shades - 1);
        range(all, "shadeOf(#,9)", 0, shades - 1);
        range(all, "bestHeight(#,0)", 0, shades - 1);
        range(all, "bestHeight(#,1)", 0, shades - 1);
        // "INVALID_ARGUMENT if there is no such shade, or none behind it"
        range(all, "untie(#)", 0, shades - 2);
        range(all, "tell(0,#)", 0, 9);
        range(all, "shadeOf(0,#)", 0, 9);
        range(all, "bestHeight(0,#)", 0, 1);
        // "what: 0 .. 3; 10 plus a shade"
        range(all, "would(0,1,#)", 0, 3, 10, 9 + shades);
        range(all, "would(0,-9,#)", 0, 3, 10, 9 + shades);
    }

    /** steps: 1 to 9, -1 to -9; for leastPulls also -1 as a string. */
    private static void ofStrings(int strings) {
        String all = withShades(2) + "string(1,2) ".repeat(strings);
        range(all, "pull(#,1)", 0, strings - 1);
        range(all, "pull(#,-9)", 0, strings - 1);
        range(all, "stringOf(#,0)", 0, strings - 1);
        range(all, "stringOf(#,3)", 0, strings - 1);
        range(all, "would(#,1,0)", 0, strings - 1);
        range(all, "leastPulls(#)", -1, strings - 1);
        range(all, "pull(0,#)", -9, -1, 1, 9);
        range(all, "would(0,#,0)", -9, -1, 1, 9);
        range(all, "would(0,#,10)", -9, -1, 1, 9);
        range(all, "stringOf(0,#)", 0, 3);
        range("", "leastPulls(#)", -1, -1);
    }

    /** "place: 0 or more"; "INVALID_ARGUMENT if place is negative". */
    private static void ofThePlace() {
        String one = withShades(1);
        new Used(one + "groupAt(-1)=INVALID groupAt(-2)=INVALID groupAt(LEAST)=INVALID "
                + "groupAt(0)=1 groupAt(1)=NONE groupAt(2)=NONE groupAt(8)=NONE groupAt(GREATEST)=NONE");
        new Used("groupAt(-1)=INVALID groupAt(LEAST)=INVALID groupAt(0)=NONE groupAt(GREATEST)=NONE");
    }

    /** "0 the difference for a knot (1 to 9; 4), 1 the leeway of plants (0 to 36; 4)". */
    private static void ofSettings() {
        range("", "set(#,1)", 0, 1);
        range("", "set(#,9)", 0, 1);
        range("", "set(#,0)", 1, 1);
        range("", "set(#,10)", 1, 1);
        range("", "set(#,36)", 1, 1);
        range("", "set(0,#)", 1, 9);
        range("", "set(1,#)", 0, 36);
        for (int value = 1; value <= 9; value++) {
            new Used("set(0," + value + ")=4 count(20)=" + value + " count(21)=4 set(0,4)=" + value);
        }
        for (int value = 0; value <= 36; value++) {
            new Used("set(1," + value + ")=4 count(21)=" + value + " count(20)=4 set(1,4)=" + value);
        }
    }

    /** "hours: 1 to 24"; "what: 0: shades; .. 12: the length of the text; 20 and 21: the settings". */
    private static void ofCounts() {
        range("", "pass(#)", 1, 24);
        range(withShades(2), "pass(#)", 1, 24);
        range("", "count(#)", 0, 12, 20, 21);
        range(withShades(8), "count(#)", 0, 12, 20, 21);
    }

    /** "character: 32 to 126"; "what: 0: its position; 1: its reason; 2: its cause". */
    private static void ofTexts() {
        range("", "type(#)", 32, 126);
        range("type('pass 1;')", "type(#)", 32, 126);
        range("", "fault(#)", 0, 2);
        range("type('x')", "fault(#)", 0, 2);
        range("type('pass 1;')", "fault(#)", 0, 2);
    }
}

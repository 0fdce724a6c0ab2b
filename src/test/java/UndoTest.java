/** Promise 18: undo, with the history. */
public final class UndoTest {
    public static void main(String[] arguments) {
        keepsFour();
        restoresAll();
        leavesTheText();
        recordsChangesOnly();
        Check.end();
    }

    private static void keepsFour() {
        Used x = new Used();
        Check.due("nothing to take back", x.undo(), Check.IMPOSSIBLE);
        x.pass(2);
        Check.due("back to the beginning", x.undo(), 0);
        Check.due("the hour of a new object", x.count(5), 6);
        Check.due("the setting of a new object", x.count(20), 4);
        for (int shade = 0; shade < 6; shade++) {
            x.shade(shade, 0);
            Check.due("states", x.count(11), Math.min(shade + 1, 4));
        }
        for (int left = 3; left >= 0; left--) {
            Check.due("left", x.undo(), left);
            Check.due("states", x.count(11), left);
            Check.due("shades", x.count(0), left + 2);
        }
        Check.due("the oldest ones were dropped", x.undo(), Check.IMPOSSIBLE);
        Check.due("an error changes nothing", x.count(0), 2);
        Check.due("on from there", x.shade(9, 9), 2);
        Check.due("a new shade", x.shadeOf(2, 1), 9);
        Check.due("one state", x.count(11), 1);
        Check.due("and back", x.undo(), 0);
        Check.due("shades", x.count(0), 2);
    }

    private static int[] look(Used x) {
        int[] seen = new int[60];
        int place = 0;
        for (int what : new int[] {0, 1, 2, 3, 4, 5, 6, 7, 8, 9, 10, 20, 21}) {
            seen[place++] = x.count(what);
        }
        for (int shade = 0; shade < 3; shade++) {
            for (int what = 0; what <= 9; what++) {
                seen[place++] = x.shadeOf(shade, what);
            }
        }
        for (int string = 0; string < 2; string++) {
            for (int what = 0; what <= 3; what++) {
                seen[place++] = x.stringOf(string, what);
            }
        }
        return seen;
    }

    private static void same(String what, int[] seen, int[] due) {
        for (int place = 0; place < due.length; place++) {
            Check.due(what + ", place " + place, seen[place], due[place]);
        }
    }

    private static void restoresAll() {
        for (int change = 0; change < 9; change++) {
            Used x = Check.withShades(2);
            x.string(1, 0);
            x.string(2, 1);
            x.set(0, 1);
            x.pull(0, 3);
            x.pull(1, 2);
            x.pass(3);
            x.tell(0, 5);
            x.set(1, 20);
            Check.type(x, "tell 1 3;pull 0 2;pass 1;");
            int[] before = look(x);
            int done = change(x, change);
            Check.holds("change " + change + " is possible", done >= 0);
            boolean unlike = false;
            int[] after = look(x);
            for (int place = 0; place < before.length; place++) {
                unlike |= before[place] != after[place];
            }
            Check.holds("change " + change + " can be seen", unlike);
            Check.due("undo of " + change, x.undo(), 3);
            same("behind undo of " + change, look(x), before);
        }
    }

    private static int change(Used x, int which) {
        switch (which) {
            case 0: return x.shade(3, 4);
            case 1: return x.string(2, 1);
            case 2: return x.pull(0, -9);
            case 3: return x.untie(0);
            case 4: return x.tell(1, 7);
            case 5: return x.untell();
            case 6: return x.pass(1);
            case 7: return x.set(1, 3);
            default: return x.play();
        }
    }

    private static void leavesTheText() {
        Used x = Check.withShades(1);
        Check.type(x, "pass 1;");
        Check.due("play", x.play(), 1);
        x.clearText();
        Check.type(x, "ab");
        Check.due("typing is no change", x.undo(), 1);
        Check.due("the hour is taken back", x.count(6), 0);
        Check.due("the text is not", x.count(12), 2);
        Check.due("nor is it emptied", x.undo(), 0);
        Check.due("the text is as it was", x.count(12), 2);
        Check.due("with its fault", x.fault(1), 1);
    }

    private static void recordsChangesOnly() {
        Used x = Check.withShades(2);
        x.string(1, 2);
        x.undo();
        Check.due("two states", x.count(11), 2);
        x.shadeOf(0, 0);
        x.groupAt(0);
        x.leastPulls(-1);
        x.reallyDo();
        x.bestHeight(0, 0);
        x.fault(0);
        x.type(32);
        x.clearText();
        x.untie(0);
        x.pull(0, 1);
        x.set(0, 0);
        Check.due("still two states", x.count(11), 2);
        Check.due("no string", x.count(1), 0);
        Check.due("a number of its own again", x.string(2, 1), 0);
        Check.due("its ups", x.stringOf(0, 0), 2);
    }
}

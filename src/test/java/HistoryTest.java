/** The terms of changes, with promise 18: what is a change, what a state is, and how many are kept. */
public final class HistoryTest {
    private static final String GREENHOUSE = "shade(5,20) shade(8,30) string(1,0) string(2,1) set(0,1) pull(0,3) "
            + "pull(1,1) pull(1,1) pass(3) tell(0,5) tell(1,1) set(1,20) type('tell 1 3;pull 0 2;pass 1;') ";
    /** Changes that can be seen. */
    private static final String[] CHANGES = {"shade(3,4)=2", "string(2,1)=2", "pull(0,-9)", "pull(1,1)=0", "untie(0)=1",
        "tell(1,7)=0", "untell()=2", "pass(1)", "set(0,7)=1", "set(1,3)=20", "play()=3"};
    /** Changes that nothing but the history shows. */
    private static final String[] SILENT = {"tell(0,5)", "set(0,1)=1", "set(1,20)=20"};

    public static void main(String[] arguments) {
        emptyHistory();
        upTo4States();
        theFifthDropsTheOldest();
        eachChangeIsRestored();
        severalAreRestored();
        silentChanges();
        restoresAFirstState();
        allButTheText();
        undoIsNoChange();
        errorsAreNoChanges();
        readingIsNoChange();
        aNewShadeBehindUndo();
        Check.end();
    }

    /** "NOT_POSSIBLE if it is empty" */
    private static void emptyHistory() {
        new Used("count(11)=0 undo()=IMPOSSIBLE count(11)=0 undo()=IMPOSSIBLE shade(6,18)=0 undo()=0 undo()=IMPOSSIBLE "
                + "count(0)=0 count(11)=0");
        // what is no change leaves it empty
        new Used("type('pass 1;') clearText()=7 shade(24,0)=INVALID undo()=IMPOSSIBLE");
        new Used("shade(6,18)=0 pass(3)=1 undo()=1 undo()=0 undo()=IMPOSSIBLE count(6)=0 count(5)=6");
    }

    /** "A history of at most 4 states is kept" */
    private static void upTo4States() {
        new Used("pass(1) count(11)=1 pass(1) count(11)=2 pass(1) count(11)=3 pass(1) count(11)=4 count(6)=4 undo()=3 "
                + "count(6)=3 undo()=2 count(6)=2 undo()=1 count(6)=1 undo()=0 count(6)=0 undo()=IMPOSSIBLE "
                + "count(6)=0");
    }

    /** "if there are 5 states then, the oldest one is dropped" */
    private static void theFifthDropsTheOldest() {
        new Used("pass(1) pass(1) pass(1) pass(1) pass(1) count(11)=4 count(6)=5 undo()=3 count(6)=4 undo()=2 "
                + "count(6)=3 undo()=1 count(6)=2 undo()=0 count(6)=1 undo()=IMPOSSIBLE count(6)=1 count(11)=0");
        for (int changes = 5; changes <= 40; changes++) {
            Used x = new Used("pass(1) ".repeat(changes) + "count(11)=4");
            for (int left = 3; left >= 0; left--) {
                x.run("undo()=" + left + " count(11)=" + left + " count(6)=" + (changes - 4 + left));
            }
            x.run("undo()=IMPOSSIBLE count(6)=" + (changes - 4));
        }
        // full, less, and full again
        new Used("pass(1) pass(1) pass(1) pass(1) undo()=3 undo()=2 pass(5) count(11)=3 pass(5) count(11)=4 pass(5) "
                + "count(11)=4 count(6)=17 undo()=3 count(6)=12 undo()=2 count(6)=7 undo()=1 count(6)=2 undo()=0 "
                + "count(6)=1 undo()=IMPOSSIBLE");
    }

    /** "each change records everything before it but the text" */
    private static void eachChangeIsRestored() {
        String before = Look.withoutHistory(new Used(GREENHOUSE));
        for (String change : CHANGES) {
            Used x = new Used(GREENHOUSE + change + " count(11)=4");
            String after = Look.withoutHistory(x);
            Check.holds(change + " can be seen: that", !after.equals(before));
            x.run("undo()=3");
            Look.same("behind " + change + " and undo()", Look.withoutHistory(x), before);
        }
    }

    private static void severalAreRestored() {
        for (int first = 0; first < CHANGES.length; first++) {
            StringBuilder four = new StringBuilder();
            for (int place = 0; place < 4; place++) {
                String call = CHANGES[(first + place * 3) % CHANGES.length];
                four.append(call.replaceAll("=.*", "")).append(' ');
            }
            // untie may be not possible by then
            String run = four.toString().replace("untie(0)", "tell(0,8)");
            Used x = new Used(GREENHOUSE + run + "undo()=3 undo()=2 undo()=1 undo()=0");
            Look.same("behind " + run, Look.at(x), Look.at(new Used(GREENHOUSE)).replaceFirst("states 4", "states 0"));
            x.run("undo()=IMPOSSIBLE");
        }
    }

    /** "The changes are the calls of .. that return no error", also those after which all is as it was. */
    private static void silentChanges() {
        String before = Look.withoutHistory(new Used(GREENHOUSE));
        for (String change : SILENT) {
            Used x = new Used(GREENHOUSE + change + " count(11)=4");
            Look.same("behind " + change, Look.withoutHistory(x), before);
            x.run("undo()=3");
            Look.same("behind " + change + " and undo()", Look.withoutHistory(x), before);
            // the latest change ahead of it was set(1,20)
            x.run("undo()=2 count(21)=4");
        }
        new Used("untell()=0 count(11)=1 untell()=0 count(11)=2 play()=0 count(11)=3 set(0,4)=4 count(11)=4 undo()=3");
        // a pull that moves nothing
        new Used("shade(6,18) string(1,0) pull(0,-1)=0 count(11)=3 undo()=2 stringOf(0,2)=100000");
    }

    private static void restoresAFirstState() {
        String[] firsts = {"shade(1,2)=0", "untell()=0", "pass(24)=0", "set(0,9)=4", "set(1,0)=4", "play()=0"};
        String due = Look.at(new Used());
        for (String first : firsts) {
            Used x = new Used(first + " count(11)=1 undo()=0");
            Look.same("behind " + first + " and undo()", Look.at(x), due);
        }
    }

    /** "everything before it but the text" */
    private static void allButTheText() {
        new Used("pass(1) type('pass 1;') undo()=0 count(12)=7 play()=1 count(6)=1 clearText()=7 undo()=0 count(12)=0 "
                + "count(6)=0");
        new Used("type('pass 1;') pass(1) clearText()=7 type('pass 2;pass 2;') undo()=0 count(12)=14 play()=2 "
                + "count(6)=4");
        // a play is one change, and its text stays when it is undone
        new Used("type('pass 1;pass 2;pass 3;') play()=3 count(11)=1 count(6)=6 undo()=0 count(6)=0 count(12)=21 "
                + "play()=3");
    }

    /** "Restores the latest state of the history, which is removed from it": it cannot be undone itself. */
    private static void undoIsNoChange() {
        new Used("pass(1) pass(2) undo()=1 count(11)=1 count(6)=1 undo()=0 count(11)=0 count(6)=0 undo()=IMPOSSIBLE");
        new Used("pass(1) undo()=0 pass(2) count(11)=1 undo()=0 count(6)=0");
    }

    private static void errorsAreNoChanges() {
        new Used("shade(6,18) shade(6,18) string(1,0) count(11)=3 shade(24,0)=INVALID string(4,0)=INVALID "
                + "pull(1,1)=INVALID pull(0,0)=INVALID untie(0)=IMPOSSIBLE untie(1)=INVALID tell(2,0)=INVALID "
                + "tell(0,10)=INVALID pass(25)=INVALID set(2,1)=INVALID set(0,10)=INVALID type('x') "
                + "play()=IMPOSSIBLE type(127)=INVALID count(11)=3 undo()=2 count(1)=0 undo()=1 count(0)=1");
    }

    private static void readingIsNoChange() {
        new Used("shade(6,18) string(1,0) tell(0,3)=0 count(11)=3 shadeOf(0,0)=0 stringOf(0,0)=1 groupAt(0)=1 "
                + "would(0,1,0)=1 leastPulls(-1)=3 reallyDo()=1 bestHeight(0,0) count(0)=1 fault(0)=NONE type('a') "
                + "clearText()=1 count(11)=3 undo()=2 shadeOf(0,8)=NONE undo()=1 count(1)=0");
    }

    /** A shade or string that comes back behind undo is a new one. */
    private static void aNewShadeBehindUndo() {
        new Used("shade(6,18) string(1,0) undo()=1 undo()=0 shade(7,20)=0 string(0,1)=0 stringOf(0,0)=0 "
                + "stringOf(0,1)=1 shadeOf(0,1)=7 shadeOf(0,2)=20");
        new Used("shade(6,36) string(1,0) pull(0,5) tell(0,3) undo()=3 undo()=2 undo()=1 undo()=0 shade(8,0)=0 "
                + "shadeOf(0,0)=0 shadeOf(0,8)=NONE string(1,0)=0 stringOf(0,2)=100000 stringOf(0,3)=0");
        new Used("shade(6,36) pass(2) undo()=1 undo()=0 shade(6,36)=0 shadeOf(0,6)=0 shadeOf(0,7)=0 count(6)=0");
        new Used("shade(6,0) shade(6,0) string(3,0) string(1,2) set(0,2) pull(0,5) pull(1,1) pull(1,1) shadeOf(0,3)=2 "
                + "undo()=3 undo()=2 shadeOf(0,3)=0 shadeOf(0,0)=5 count(10)=0 stringOf(1,3)=0");
    }
}

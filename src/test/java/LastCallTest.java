/**
 * "An object is used for at most 512 calls": the 512th one is answered as any other, and numbers that
 * add up over all of them are right.
 */
public final class LastCallTest {
    private static final String GREENHOUSE = "shade(6,18) shade(6,36) string(3,0) string(1,2) set(1,36) tell(0,3) "
            + "pull(0,2)=3 ";
    private static final String[] LAST = {"shade(0,0)=2", "string(1,0)=2", "pull(0,2)=3", "untie(0)=IMPOSSIBLE",
        "tell(1,2)=1", "untell()=1", "pass(24)=48", "set(0,9)=4", "shadeOf(0,0)=2", "stringOf(0,2)=100002",
        "groupAt(1)=2", "would(0,9,10)=9", "leastPulls(1)=101", "reallyDo()=1", "bestHeight(0,1)=24",
        "count(11)=4", "undo()=3", "type(33)=1", "clearText()=0", "fault(0)=NONE", "play()=0", "shade(24,0)=INVALID"};

    public static void main(String[] arguments) {
        eachAsTheLast();
        manySteps();
        manyJams();
        manyChanges();
        Check.end();
    }

    private static void eachAsTheLast() {
        for (String last : LAST) {
            Used x = new Used(GREENHOUSE);
            while (x.calls() < Used.MOST_CALLS - 1) {
                x.count(0);
            }
            x.run(last);
            Check.due("calls", x.calls(), Used.MOST_CALLS);
        }
    }

    /** "how many steps it was pulled so far, less how many it was let go, plus 100000" */
    private static void manySteps() {
        many("drop 0 9;", "stringOf(0,2)=", 100000, -54);
        many("pull 0 9;", "stringOf(0,2)=", 100000, 54);
    }

    private static void many(String order, String call, int first, int each) {
        Used x = new Used("shade(6,18) string(1,0) type('" + order.repeat(6) + "')");
        int plays = 0;
        while (x.calls() < Used.MOST_CALLS - 1) {
            x.play();
            plays++;
        }
        x.run(call + (first + plays * each));
    }

    /** "how often groups have jammed by it so far": four groups in each step */
    private static void manyJams() {
        Used x = new Used("shade(6,18) ".repeat(8) + "string(255,0) string(153,102) set(0,2) pull(0,5) pull(1,1) "
                + "count(2)=4 type('" + "pull 1 9;".repeat(6) + "')");
        int plays = 0;
        while (x.calls() < Used.MOST_CALLS - 1) {
            x.play();
            plays++;
        }
        x.run("stringOf(1,3)=" + plays * 54 * 4);
    }

    private static void manyChanges() {
        Used x = new Used();
        while (x.calls() < Used.MOST_CALLS - 6) {
            x.pass(1);
        }
        x.run("count(11)=4 undo()=3 undo()=2 undo()=1 undo()=0 count(6)=" + (Used.MOST_CALLS - 10));
    }
}

import java.util.ArrayList;
import java.util.List;

/**
 * "A call that returns an error changes nothing": each such call in several greenhouses, all that can
 * be seen then, the text by play, and each state of the history by undo, against a greenhouse in
 * which it was not called. The same for the calls that only tell something.
 */
public final class RefusedTest {
    private static final String[] GREENHOUSES = {
        "",
        "shade(6,18)",
        "shade(6,20) shade(9,10) shade(12,0) string(3,4) string(1,2) pull(0,5) set(0,2) pull(1,2) tell(0,3) tell(2,0) "
            + "type('pass 2;')",
        "shade(5,20) shade(8,30) string(1,0) string(2,1) set(0,1) pull(0,3) pull(1,1) pull(1,1) pass(3) tell(0,5) "
            + "type('tell 1 3;pull 0 2;pass 1;untie 0;')",
        "shade(5,20) string(1,0) tell(0,9) type('pass 1;pull 0 1') ",
    };
    private static final String[] REFUSED = {"shade(-1,0)", "shade(24,0)", "shade(0,-1)", "shade(0,37)", "string(0,0)",
        "string(3,1)", "string(256,0)", "string(0,-1)", "pull(-1,1)", "pull(4,1)", "pull(0,0)", "pull(0,10)",
        "pull(0,-10)", "pull(1,LEAST)", "untie(-1)", "untie(2)", "untie(1)", "untie(GREATEST)", "tell(-1,0)",
        "tell(3,0)", "tell(0,-1)", "tell(0,10)", "pass(0)", "pass(25)", "pass(LEAST)", "set(-1,4)", "set(2,4)",
        "set(0,0)", "set(0,10)", "set(1,-1)", "set(1,37)", "shadeOf(3,0)", "shadeOf(0,10)", "shadeOf(1,8)",
        "stringOf(2,0)", "stringOf(0,4)", "groupAt(-1)", "groupAt(8)", "would(0,0,0)", "would(0,1,4)", "would(4,1,0)",
        "would(0,9,18)", "leastPulls(-2)", "leastPulls(4)", "bestHeight(3,0)", "bestHeight(0,2)", "count(-1)",
        "count(13)", "count(22)", "type(31)", "type(127)", "type(GREATEST)", "fault(-1)", "fault(3)"};
    private static final String[] TELLING = {"shadeOf(0,4)", "stringOf(0,2)", "groupAt(0)", "would(0,9,0)",
        "would(1,-9,1)", "would(0,1,2)", "would(1,1,3)", "would(1,9,10)", "leastPulls(-1)", "leastPulls(0)",
        "reallyDo()", "bestHeight(0,0)", "bestHeight(0,1)", "count(4)", "fault(0)", "fault(1)", "fault(2)"};

    public static void main(String[] arguments) {
        for (String greenhouse : GREENHOUSES) {
            for (String call : REFUSED) {
                changesNothing(greenhouse, call, true);
            }
            for (String call : TELLING) {
                changesNothing(greenhouse, call, false);
            }
        }
        ofAFullGreenhouse();
        ofAnOrderThatIsNotPossible();
        ofTheLimitOfHours();
        Check.end();
    }

    private static void changesNothing(String greenhouse, String call, boolean isRefused) {
        Used x = new Used(greenhouse);
        int answer = x.answerTo(call);
        Check.holds(greenhouse + call + " answered " + answer + ", an error: that", !isRefused || answer < 0);
        asWithout(greenhouse, call, x, new Used(greenhouse));
    }

    /** Looks at both, undoes them step by step, and plays their texts at last. */
    private static void asWithout(String greenhouse, String call, Used x, Used without) {
        String where = greenhouse + " behind " + call;
        Look.same(where, Look.at(x), Look.at(without));
        int undone = 0;
        while (undone < 5 && without.count(11) > 0) {
            undone++;
            Check.due(where + " undo()", x.undo(), without.undo());
            Look.same(where + " and " + undone + " undo()", Look.at(x), Look.at(without));
        }
        Check.due(where + " undo() of an empty history", x.undo(), Check.IMPOSSIBLE);
        Check.due(where + " play()", x.play(), without.play());
        Look.same(where + " and play()", Look.at(x), Look.at(without));
        Check.due(where + " clearText()", x.clearText(), without.clearText());
    }

    /** "LIMIT_REACHED if there are 8", "4", or if the text has 60 characters */
    private static void ofAFullGreenhouse() {
        String full = "shade(6,18) ".repeat(8) + "string(1,2) ".repeat(4) + "type('" + "pass 1;".repeat(8) + "pass') ";
        for (String call : new String[] {"shade(6,18)", "string(4,0)", "type(32)", "type(126)"}) {
            Used x = new Used(full);
            Check.due(full + call, x.answerTo(call), Check.LIMIT);
            Used without = new Used(full);
            Look.same(full + call, Look.at(x), Look.at(without));
            x.run("undo()=3 count(1)=3 undo()=2 undo()=1 undo()=0 count(1)=0 count(0)=8 undo()=IMPOSSIBLE count(12)=60 "
                    + "fault(0)=56 fault(1)=1 fault(2)=4");
        }
    }

    /** "NOT_POSSIBLE if it has a fault": also if orders ahead of it are possible */
    private static void ofAnOrderThatIsNotPossible() {
        String greenhouse = "shade(6,18) shade(9,0) string(3,0) string(1,2) set(0,2) pull(0,5) ";
        List<String> texts = new ArrayList<>(List.of("x", "pull 0 1", "pull 0 1;pull 9 1;", "pull 0 0;", "untie 0;",
                "pull 1 1;untie 0;", "pass 9;pull 1 5;tell 0 1;untie 1;", "tell 0 1;tell 1 1;pass 0;", "drop 0 9;x"));
        for (String text : texts) {
            String run = greenhouse + "type('" + text + "') ";
            Used x = new Used(run);
            Check.due(run + "play()", x.play(), Check.IMPOSSIBLE);
            asWithout(run, "play()", x, new Used(run));
        }
    }

    private static void ofTheLimitOfHours() {
        String text = "pass 9;pass 9;pass 9;pass 9;pass 9;pass 9;pass 9;pass 9;";
        StringBuilder run = new StringBuilder("shade(6,18) type('" + text + "') ");
        for (int days = 0; days < 831; days += 3) {
            run.append("play()=8 ");
        }
        run.append("pass(24) pass(24) ");
        for (String call : new String[] {"pass(9)", "pass(24)"}) {
            Used x = new Used(run.toString());
            Check.due("hours so far", x.count(6), 19992);
            Check.due("at 19992 hours " + call, x.answerTo(call), Check.LIMIT);
            Look.same("at 19992 hours " + call, Look.at(x), Look.at(new Used(run.toString())));
            x.run("undo()=3 count(6)=19968");
        }
    }
}

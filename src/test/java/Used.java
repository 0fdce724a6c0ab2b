import java.util.regex.Matcher;
import java.util.regex.Pattern;

/**
 * A greenhouse in use. It counts its calls, as the document promises nothing behind the 512th one,
 * and does whole runs of calls that are written out as text, each with the answer that is due:
 * "shade(6,18)=0 pull(0,9)=INVALID type('pass 1;')". A call without "=" must be no error. What is
 * in quotes is typed sign by sign.
 */
final class Used {
    static final int MOST_CALLS = 512;

    private static final Pattern CALL = Pattern.compile("\\s*(\\w+)\\(('[^']*'|[^()']*)\\)(?:=(-?\\w+))?");

    private final StringShades inside = new StringShades();
    private final StringBuilder log = new StringBuilder();
    private int calls = 0;

    Used() {
    }

    Used(String run) {
        run(run);
    }

    int calls() {
        return calls;
    }

    /** All calls of a run; a wrong answer is told with all the calls before it. */
    Used run(String run) {
        Matcher matcher = CALL.matcher(run);
        int end = 0;
        while (end < run.length() && matcher.find(end) && matcher.start() == end) {
            one(matcher.group(1), matcher.group(2), matcher.group(3));
            end = matcher.end();
        }
        if (!run.substring(end).isBlank()) {
            throw new IllegalArgumentException("no run of calls: " + run.substring(end));
        }
        return this;
    }

    private void one(String name, String inParentheses, String due) {
        if (inParentheses.startsWith("'")) {
            typeAll(inParentheses.substring(1, inParentheses.length() - 1));
            return;
        }
        String call = name + "(" + inParentheses + ")";
        int answer = answerTo(call);
        if (due == null) {
            Check.holds(log + call + " answered " + answer + ", which", answer >= 0);
        } else {
            Check.due(log + call, answer, Check.number(due));
        }
        log.append(call).append(' ');
    }

    /** Types all signs of a text, each of which is to be taken. */
    void typeAll(String signs) {
        int before = count(12);
        for (int place = 0; place < signs.length(); place++) {
            int sign = signs.charAt(place);
            Check.due(log + "type(" + sign + ")", type(sign), before + place + 1);
        }
        log.append("type('").append(signs).append("') ");
    }

    /** The answer to one call that is written out, as "pull(0,-9)". */
    int answerTo(String call) {
        int open = call.indexOf('(');
        String inside = call.substring(open + 1, call.length() - 1).trim();
        String[] words = inside.isEmpty() ? new String[0] : inside.split(",");
        int[] numbers = new int[words.length];
        for (int place = 0; place < words.length; place++) {
            numbers[place] = Check.number(words[place].trim());
        }
        return ask(call.substring(0, open), numbers);
    }

    private int ask(String name, int[] a) {
        switch (name + a.length) {
            case "shade2": return shade(a[0], a[1]);
            case "string2": return string(a[0], a[1]);
            case "pull2": return pull(a[0], a[1]);
            case "untie1": return untie(a[0]);
            case "tell2": return tell(a[0], a[1]);
            case "untell0": return untell();
            case "pass1": return pass(a[0]);
            case "set2": return set(a[0], a[1]);
            case "shadeOf2": return shadeOf(a[0], a[1]);
            case "stringOf2": return stringOf(a[0], a[1]);
            case "groupAt1": return groupAt(a[0]);
            case "would3": return would(a[0], a[1], a[2]);
            case "leastPulls1": return leastPulls(a[0]);
            case "reallyDo0": return reallyDo();
            case "bestHeight2": return bestHeight(a[0], a[1]);
            case "count1": return count(a[0]);
            case "undo0": return undo();
            case "type1": return type(a[0]);
            case "clearText0": return clearText();
            case "fault1": return fault(a[0]);
            case "play0": return play();
            default: throw new IllegalArgumentException("no such call: " + name + " of " + a.length);
        }
    }

    /** The object, for one more call. */
    private StringShades next() {
        calls++;
        if (calls == MOST_CALLS + 1) {
            Check.holds("that call " + calls + " is promised", false);
        }
        return inside;
    }

    int shade(int hour, int want) {
        return next().shade(hour, want);
    }

    int string(int up, int down) {
        return next().string(up, down);
    }

    int pull(int string, int steps) {
        return next().pull(string, steps);
    }

    int untie(int shade) {
        return next().untie(shade);
    }

    int tell(int shade, int height) {
        return next().tell(shade, height);
    }

    int untell() {
        return next().untell();
    }

    int pass(int hours) {
        return next().pass(hours);
    }

    int set(int what, int value) {
        return next().set(what, value);
    }

    int shadeOf(int shade, int what) {
        return next().shadeOf(shade, what);
    }

    int stringOf(int string, int what) {
        return next().stringOf(string, what);
    }

    int groupAt(int place) {
        return next().groupAt(place);
    }

    int would(int string, int steps, int what) {
        return next().would(string, steps, what);
    }

    int leastPulls(int string) {
        return next().leastPulls(string);
    }

    int reallyDo() {
        return next().reallyDo();
    }

    int bestHeight(int shade, int what) {
        return next().bestHeight(shade, what);
    }

    int count(int what) {
        return next().count(what);
    }

    int undo() {
        return next().undo();
    }

    int type(int character) {
        return next().type(character);
    }

    int clearText() {
        return next().clearText();
    }

    int fault(int what) {
        return next().fault(what);
    }

    int play() {
        return next().play();
    }
}

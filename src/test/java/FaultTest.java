/** Promise 21: fault, with the terms of texts. */
public final class FaultTest {
    public static void main(String[] arguments) {
        arguments();
        wellFormed();
        badForms();
        noSuch();
        otherwise();
        ofOrdersAhead();
        Check.end();
    }

    private static void arguments() {
        StringShades x = new StringShades();
        Check.due("fault(-1)", x.fault(-1), Check.INVALID);
        Check.due("fault(3)", x.fault(3), Check.INVALID);
        Check.due("least number", x.fault(Integer.MIN_VALUE), Check.INVALID);
        Check.due("greatest number", x.fault(Integer.MAX_VALUE), Check.INVALID);
        none(x, "");
        Check.type(x, "x");
        Check.due("fault(3) of a fault", x.fault(3), Check.INVALID);
    }

    private static void none(StringShades x, String text) {
        Check.retype(x, text);
        for (int what = 0; what <= 2; what++) {
            Check.due("fault(" + what + ") of '" + text + "'", x.fault(what), Check.NONE);
        }
    }

    private static void due(StringShades x, String text, int position, int reason, int cause) {
        Check.retype(x, text);
        Check.due("position of '" + text + "'", x.fault(0), position);
        Check.due("reason of '" + text + "'", x.fault(1), reason);
        Check.due("cause of '" + text + "'", x.fault(2), cause);
    }

    private static void badForm(StringShades x, String text, int position, int cause) {
        due(x, text, position, 1, cause);
    }

    private static StringShades greenhouse() {
        StringShades x = Check.withShades(3);
        x.string(3, 0);
        x.string(1, 2);
        return x;
    }

    private static void wellFormed() {
        StringShades x = greenhouse();
        none(x, "pull 0 1;");
        none(x, "pull 1 9;");
        none(x, "drop 1 9;");
        none(x, "tell 2 0;");
        none(x, "tell 0 9;");
        none(x, "pass 1;");
        none(x, "pass 9;pass 9;pass 9;pass 9;pass 9;pass 9;pass 9;pass 9;");
        none(x, "pull 0 1;drop 1 2;tell 2 9;pass 3;");
    }

    private static void badForms() {
        StringShades x = greenhouse();
        // no word
        badForm(x, ";", 0, 0);
        badForm(x, " ", 0, 0);
        badForm(x, " pull 0 1;", 0, 0);
        badForm(x, "0", 0, 0);
        badForm(x, "p", 0, 0);
        badForm(x, "pul", 0, 0);
        badForm(x, "bull 0 1;", 0, 0);
        badForm(x, "pill 0 1;", 0, 0);
        badForm(x, "puls 0 1;", 0, 0);
        badForm(x, "pul 0 1;", 0, 0);
        badForm(x, "pulls 0 1;", 0, 0);
        badForm(x, "pullz", 0, 0);
        badForm(x, "pulla 0 1;", 0, 0);
        badForm(x, "Pull 0 1;", 0, 0);
        badForm(x, "puLl 0 1;", 0, 0);
        badForm(x, "untied 0;", 0, 0);
        badForm(x, "unti", 0, 0);
        badForm(x, "dropdrop 0 1;", 0, 0);
        badForm(x, "set 0 1;", 0, 0);
        badForm(x, "untell;", 0, 0);
        // the text ends early
        badForm(x, "pull", 0, 4);
        badForm(x, "pull ", 0, 5);
        badForm(x, "pull 0", 0, 6);
        badForm(x, "pull 0 ", 0, 7);
        badForm(x, "pull 0 1", 0, 8);
        badForm(x, "drop 0 1", 0, 8);
        badForm(x, "untie", 0, 5);
        badForm(x, "untie ", 0, 6);
        badForm(x, "untie 0", 0, 7);
        badForm(x, "tell 0 1", 0, 8);
        badForm(x, "pass", 0, 4);
        badForm(x, "pass 1", 0, 6);
        // another sign
        badForm(x, "pull0 1;", 0, 4);
        badForm(x, "pullA", 0, 4);
        badForm(x, "pull`", 0, 4);
        badForm(x, "pull{", 0, 4);
        badForm(x, "pull;", 0, 4);
        badForm(x, "pull  0 1;", 0, 5);
        badForm(x, "pull a 1;", 0, 5);
        badForm(x, "pull / 1;", 0, 5);
        badForm(x, "pull : 1;", 0, 5);
        badForm(x, "pull -1 1;", 0, 5);
        badForm(x, "pull 01;", 0, 6);
        badForm(x, "pull 0  1;", 0, 7);
        badForm(x, "pull 0 ;", 0, 7);
        badForm(x, "pull 0 10;", 0, 8);
        badForm(x, "pull 0 1 ;", 0, 8);
        badForm(x, "drop 0 1:", 0, 8);
        badForm(x, "tell 0;", 0, 6);
        badForm(x, "untie 0 1;", 0, 7);
        badForm(x, "untie x;", 0, 6);
        badForm(x, "pass 24;", 0, 6);
        badForm(x, "pass 1 1;", 0, 6);
        badForm(x, "pass,1;", 0, 4);
        // behind others
        badForm(x, "pass 1;;", 7, 0);
        badForm(x, "pass 1; pass 1;", 7, 0);
        badForm(x, "pass 1;pull 0 1;pull 0 11;", 16, 8);
        badForm(x, "pass 1;untie", 7, 5);
        badForm(x, "tell 2 9;tell 2", 9, 6);
        // the text is full ahead of its ';'
        badForm(x, "pass 1;pass 1;pass 1;pass 1;pass 1;pass 1;pull 0 1;pull 0 11", 51, 8);
        badForm(x, "pass 1;pass 1;pass 1;pass 1;pass 1;pass 1;pass 1;pull 0 1;pu", 58, 0);
        badForm(x, "pass 1;pass 1;pass 1;pass 1;pass 1;pass 1;pass 1;pass 1;pass", 56, 4);
        badForm(x, "aaaaaaaaaaaaaaaaaaaaaaaaaaaaaaaaaaaaaaaaaaaaaaaaaaaaaaaaaaaa", 0, 0);
    }

    private static void noSuch() {
        StringShades x = greenhouse();
        due(x, "pull 2 1;", 0, 2, Check.NONE);
        due(x, "pull 9 0;", 0, 2, Check.NONE);
        due(x, "pull 0 0;", 0, 2, Check.NONE);
        due(x, "drop 2 1;", 0, 2, Check.NONE);
        due(x, "drop 0 0;", 0, 2, Check.NONE);
        due(x, "tell 3 0;", 0, 2, Check.NONE);
        due(x, "untie 3;", 0, 2, Check.NONE);
        due(x, "untie 2;", 0, 2, Check.NONE);
        due(x, "pass 0;", 0, 2, Check.NONE);
        due(x, "pass 1;pass 0;", 7, 2, Check.NONE);
        // the form is looked at first
        badForm(x, "pull 2 1", 0, 8);
        badForm(x, "pass 0", 0, 6);
        badForm(x, "tell 9", 0, 6);
        StringShades empty = new StringShades();
        due(empty, "pull 0 1;", 0, 2, Check.NONE);
        due(empty, "tell 0 0;", 0, 2, Check.NONE);
        due(empty, "untie 0;", 0, 2, Check.NONE);
        none(empty, "pass 1;");
    }

    private static void otherwise() {
        StringShades x = greenhouse();
        due(x, "untie 0;", 0, 3, Check.NONE);
        due(x, "untie 1;", 0, 3, Check.NONE);
        due(x, "pass 1;untie 0;x", 7, 3, Check.NONE);
        x.pull(0, 4);
        x.pull(1, 2);
        due(x, "untie 0;", 0, 3, Check.NONE);
        due(x, "untie 1;", 0, 3, Check.NONE);
        Check.due("looking is no change", x.undo(), 3);
        Check.due("no knot is left", x.count(2), 0);
    }

    private static void ofOrdersAhead() {
        StringShades x = greenhouse();
        x.set(0, 1);
        x.pull(0, 3);
        // a step apart makes a difference of 2, and the ends bring both nearer
        none(x, "pull 1 1;");
        due(x, "pull 1 1;untie 0;", 9, 3, Check.NONE);
        Check.due("orders of a fault are not done", x.count(2), 0);
        Check.due("nor is the hour", x.count(6), 0);

        StringShades y = Check.withShades(2);
        y.string(1, 0);
        y.string(2, 1);
        y.set(0, 1);
        none(y, "pull 0 3;pull 1 1;untie 0;");
        due(y, "pull 0 3;pull 1 1;untie 0;untie 0;", 26, 3, Check.NONE);
        none(y, "pull 0 3;pull 1 2;untie 0;untie 0;");
        due(y, "pull 0 3;untie 0;", 9, 3, Check.NONE);
        due(y, "pull 0 4;pull 1 1;untie 0;", 18, 3, Check.NONE);
        Check.due("nothing was done", y.shadeOf(0, 0), 0);
        Check.due("nothing was recorded", y.count(11), 4);
    }
}

/** Promise 21: fault, with the terms of texts; FormTest goes through all forms sign by sign. */
public final class FaultTest {
    private static final String GREENHOUSE =
            "shade(6,18)=0 shade(6,18)=1 shade(6,18)=2 string(3,0)=0 string(1,2)=1 ";

    public static void main(String[] arguments) {
        arguments();
        wellFormed();
        noWords();
        endsEarly();
        otherSigns();
        behindOthers();
        noSuch();
        otherwise();
        ofOrdersAhead();
        Check.end();
    }

    private static void arguments() {
        new Used("fault(-1)=INVALID fault(3)=INVALID fault(LEAST)=INVALID fault(GREATEST)=INVALID "
                + "fault(0)=NONE fault(1)=NONE fault(2)=NONE type('x') "
                + "fault(-1)=INVALID fault(3)=INVALID fault(0)=0 fault(1)=1 fault(2)=0");
    }

    private static void none(String run, String text) {
        new Used(run + "type('" + text + "') fault(0)=NONE fault(1)=NONE fault(2)=NONE");
    }

    private static void due(String run, String text, int position, int reason) {
        new Used(run + "type('" + text + "') fault(0)=" + position + " fault(1)=" + reason + " fault(2)=NONE");
    }

    private static void badForm(String text, int position, int cause) {
        new Used(GREENHOUSE + "type('" + text + "') fault(0)=" + position + " fault(1)=1 fault(2)=" + cause);
    }

    private static void wellFormed() {
        none(GREENHOUSE, "pull 0 1;");
        none(GREENHOUSE, "pull 1 9;");
        none(GREENHOUSE, "drop 1 9;");
        none(GREENHOUSE, "tell 2 0;");
        none(GREENHOUSE, "tell 0 9;");
        none(GREENHOUSE, "pass 1;");
        none(GREENHOUSE, "pass 9;pass 9;pass 9;pass 9;pass 9;pass 9;pass 9;pass 9;");
        none(GREENHOUSE, "pull 0 1;drop 1 2;tell 2 9;pass 3;");
    }

    private static void noWords() {
        String[] texts = {";", " ", " pull 0 1;", "0", "p", "pul", "bull 0 1;", "pill 0 1;", "puls 0 1;",
            "pul 0 1;", "pulls 0 1;", "pullz", "pulla 0 1;", "Pull 0 1;", "puLl 0 1;", "untied 0;", "unti",
            "dropdrop 0 1;", "set 0 1;", "untell;", "aaaaaaaaaaaaaaaaaaaaaaaaaaaaaaaaaaaaaaaaaaaaaaaaaaaaaaaaaaaa"};
        for (String text : texts) {
            badForm(text, 0, 0);
        }
    }

    private static void endsEarly() {
        String[] texts = {"pull", "pull ", "pull 0", "pull 0 ", "pull 0 1", "drop 0 1", "untie", "untie ",
            "untie 0", "tell 0 1", "pass", "pass 1"};
        for (String text : texts) {
            badForm(text, 0, text.length());
        }
    }

    private static void otherSigns() {
        badForm("pull0 1;", 0, 4);
        badForm("pullA", 0, 4);
        badForm("pull`", 0, 4);
        badForm("pull{", 0, 4);
        badForm("pull;", 0, 4);
        badForm("pull  0 1;", 0, 5);
        badForm("pull a 1;", 0, 5);
        badForm("pull / 1;", 0, 5);
        badForm("pull : 1;", 0, 5);
        badForm("pull -1 1;", 0, 5);
        badForm("pull 01;", 0, 6);
        badForm("pull 0  1;", 0, 7);
        badForm("pull 0 ;", 0, 7);
        badForm("pull 0 10;", 0, 8);
        badForm("pull 0 1 ;", 0, 8);
        badForm("drop 0 1:", 0, 8);
        badForm("tell 0;", 0, 6);
        badForm("untie 0 1;", 0, 7);
        badForm("untie x;", 0, 6);
        badForm("pass 24;", 0, 6);
        badForm("pass 1 1;", 0, 6);
        badForm("pass,1;", 0, 4);
    }

    private static void behindOthers() {
        badForm("pass 1;;", 7, 0);
        badForm("pass 1; pass 1;", 7, 0);
        badForm("pass 1;pull 0 1;pull 0 11;", 16, 8);
        badForm("pass 1;untie", 7, 5);
        badForm("tell 2 9;tell 2", 9, 6);
        // the text is full ahead of its ';'
        badForm("pass 1;pass 1;pass 1;pass 1;pass 1;pass 1;pull 0 1;pull 0 11", 51, 8);
        badForm("pass 1;pass 1;pass 1;pass 1;pass 1;pass 1;pass 1;pull 0 1;pu", 58, 0);
        badForm("pass 1;pass 1;pass 1;pass 1;pass 1;pass 1;pass 1;pass 1;pass", 56, 4);
    }

    private static void noSuch() {
        String[] texts = {"pull 2 1;", "pull 9 0;", "pull 0 0;", "drop 2 1;", "drop 0 0;", "tell 3 0;",
            "untie 3;", "untie 2;", "pass 0;"};
        for (String text : texts) {
            due(GREENHOUSE, text, 0, 2);
            due(GREENHOUSE, "pass 1;" + text, 7, 2);
            // the form is looked at first
            int length = text.length() - 1;
            badForm(text.substring(0, length), 0, length);
        }
        due("", "pull 0 1;", 0, 2);
        due("", "tell 0 0;", 0, 2);
        due("", "untie 0;", 0, 2);
        none("", "pass 1;");
    }

    private static void otherwise() {
        due(GREENHOUSE, "untie 0;", 0, 3);
        due(GREENHOUSE, "untie 1;", 0, 3);
        due(GREENHOUSE, "pass 1;untie 0;x", 7, 3);
        String knotBehind0 = GREENHOUSE + "pull(0,4)=3 pull(1,2)=3 shadeOf(0,3)=1 ";
        due(knotBehind0, "untie 0;", 0, 3);
        due(knotBehind0, "untie 1;", 0, 3);
        new Used(knotBehind0 + "type('pass 1;untie 0;') fault(1)=3 undo()=3 count(2)=0 count(6)=0");
    }

    private static void ofOrdersAhead() {
        String level3 = GREENHOUSE + "set(0,1)=4 pull(0,3)=3 ";
        none(level3, "pull 1 1;");
        // a step apart makes a knot between heights that differ by 2
        due(level3, "pull 1 1;untie 0;", 9, 3);
        new Used(level3 + "type('pull 1 1;pass 2;untie 0;') fault(1)=3 count(2)=0 count(6)=0 count(11)=4");

        String crossing = "shade(6,18)=0 shade(6,18)=1 string(1,0)=0 string(2,1)=1 set(0,1)=4 ";
        none(crossing, "pull 0 3;pull 1 1;untie 0;");
        due(crossing, "pull 0 3;pull 1 1;untie 0;untie 0;", 26, 3);
        none(crossing, "pull 0 3;pull 1 2;untie 0;untie 0;");
        due(crossing, "pull 0 3;untie 0;", 9, 3);
        due(crossing, "pull 0 4;pull 1 1;untie 0;", 18, 3);
    }
}

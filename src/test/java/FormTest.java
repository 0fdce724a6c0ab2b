/**
 * The form of orders, sign by sign: each place at which an order can break off, each length at which
 * the text can end, an empty text, and one of 60 characters. The causes that are due are told here by
 * the places of each form alone: # stands for a digit.
 */
public final class FormTest {
    private static final String GREENHOUSE = "shade(6,18)=0 shade(6,18)=1 string(3,0)=0 ";
    private static final String[] FORMS = {"pull # #;", "drop # #;", "untie #;", "tell # #;", "pass #;"};
    /** Orders of these forms that are possible in the greenhouse; that of untie has the reason 3. */
    private static final String[] ORDERS = {"pull 0 1;", "drop 0 1;", "untie 0;", "tell 0 1;", "pass 1;"};
    private static final String[] AHEAD = {"", "pass 1;", "pull 0 1;tell 1 9;"};

    public static void main(String[] arguments) {
        emptyText();
        endsTooEarly();
        breaksOffAtEachPlace();
        signsTooMany();
        signsTooFew();
        lettersOfNoWord();
        eachDigit();
        sixtyCharacters();
        typesAndEmpties();
        Check.end();
    }

    private static void badForm(String text, int position, int cause) {
        Used x = new Used(GREENHOUSE);
        x.typeAll(text);
        String name = " of '" + text + "'";
        Check.due("position" + name, x.fault(0), position);
        Check.due("reason" + name, x.fault(1), 1);
        Check.due("cause" + name, x.fault(2), cause);
        Check.due("play" + name, x.play(), Check.IMPOSSIBLE);
    }

    /** "There is a text of at most 60 characters, initially empty"; "NOT_FOUND .. (also if it is empty)" */
    private static void emptyText() {
        new Used("count(12)=0 fault(0)=NONE fault(1)=NONE fault(2)=NONE clearText()=0 count(12)=0 play()=0 "
                + "count(12)=0");
        // a text that is emptied has neither the fault nor the orders that it had
        new Used(GREENHOUSE + "type('x') fault(0)=0 fault(1)=1 fault(2)=0 play()=IMPOSSIBLE clearText()=1 "
                + "fault(0)=NONE fault(1)=NONE fault(2)=NONE play()=0 clearText()=0");
        new Used(GREENHOUSE + "type('pass 1;') fault(0)=NONE play()=1 clearText()=7 fault(0)=NONE play()=0 count(6)=1");
        new Used(GREENHOUSE + "type('pass 1;pull') fault(0)=7 fault(2)=4 clearText()=11 type('pull') fault(0)=0 "
                + "fault(2)=4");
    }

    /** "of an order that the text ends too early it is its length"; within its word the cause is 0 */
    private static void endsTooEarly() {
        for (int kind = 0; kind < FORMS.length; kind++) {
            int word = FORMS[kind].indexOf(' ');
            for (int length = 1; length < FORMS[kind].length(); length++) {
                for (String ahead : AHEAD) {
                    badForm(ahead + ORDERS[kind].substring(0, length), ahead.length(), length < word ? 0 : length);
                }
            }
        }
    }

    /** "otherwise at which character of the order, from 0, it breaks off": each other sign at each place */
    private static void breaksOffAtEachPlace() {
        for (int kind = 0; kind < FORMS.length; kind++) {
            for (int place = 0; place < FORMS[kind].length(); place++) {
                for (char sign = 32; sign <= 126; sign++) {
                    if (!fits(FORMS[kind].charAt(place), sign)) {
                        String text = ORDERS[kind].substring(0, place) + sign + ORDERS[kind].substring(place + 1);
                        badForm(text, 0, causeAt(FORMS[kind], place, sign));
                        badForm("pass 1;" + text, 7, causeAt(FORMS[kind], place, sign));
                    }
                }
            }
        }
    }

    private static boolean fits(char form, char sign) {
        return form == '#' ? Character.isDigit(sign) : form == sign;
    }

    /** A wrong sign in the word, or one more letter behind it, leaves letters that are none of the words. */
    private static int causeAt(String form, int place, char sign) {
        int word = form.indexOf(' ');
        boolean oneMoreLetter = place == word && sign >= 'a' && sign <= 'z';
        return place < word || oneMoreLetter ? 0 : place;
    }

    /** A sign that is put in ahead of each place: the order breaks off there, unless the same sign follows. */
    private static void signsTooMany() {
        for (int kind = 0; kind < FORMS.length; kind++) {
            int word = FORMS[kind].indexOf(' ');
            for (int place = word; place < FORMS[kind].length(); place++) {
                for (char sign : " 0;A-".toCharArray()) {
                    if (!fits(FORMS[kind].charAt(place), sign)) {
                        badForm(ORDERS[kind].substring(0, place) + sign + ORDERS[kind].substring(place), 0, place);
                    }
                }
            }
            badForm(ORDERS[kind].substring(0, word) + " " + ORDERS[kind].substring(word), 0, word + 1);
            badForm(" " + ORDERS[kind], 0, 0);
        }
        // two digits in the place of one
        badForm("pull 00 1;", 0, 6);
        badForm("pull 0 11;", 0, 8);
        badForm("untie 00;", 0, 7);
        badForm("pass 10;", 0, 6);
        // an order with no ';' ahead of the next one
        badForm("pass 1pass 1;", 0, 6);
        badForm("pass 1;;", 7, 0);
        badForm("pass 1; ", 7, 0);
    }

    /** A sign that is left out at each place: the order breaks off there. */
    private static void signsTooFew() {
        for (int kind = 0; kind < FORMS.length; kind++) {
            int word = FORMS[kind].indexOf(' ');
            for (int place = 0; place < FORMS[kind].length(); place++) {
                String text = ORDERS[kind].substring(0, place) + ORDERS[kind].substring(place + 1);
                badForm(text, 0, place < word ? 0 : place);
            }
        }
    }

    /** "its letters a to z, as many as follow one another from its beginning on, are none of these words" */
    private static void lettersOfNoWord() {
        String[] texts = {"a", "z", "pulldrop 0 1;", "pullpull", "passs 1;", "untieuntie 0;", "telltale 0 1;",
            "pullz 0 1;", "pullaaaa", "set 0 1;", "shade 6 9;", "untell;", "undo;", "string 1 2;", "PULL 0 1;",
            "pulL 0 1;", "x", ";", " ", "0", "~", "@", "`", "{", "[", "-pull 0 1;", "9pass 1;"};
        for (String text : texts) {
            badForm(text, 0, 0);
            badForm("pass 1;" + text, 7, 0);
        }
        // a word it is if another sign than a letter from a to z ends it
        for (char sign : "AZ09`{@[;-~_".toCharArray()) {
            for (int kind = 0; kind < FORMS.length; kind++) {
                int word = FORMS[kind].indexOf(' ');
                badForm(ORDERS[kind].substring(0, word) + sign, 0, word);
            }
        }
    }

    /** "each number is one digit", 0 to 9 */
    private static void eachDigit() {
        for (int digit = 0; digit <= 9; digit++) {
            int string = digit == 0 ? 0 : 2;
            reason("pull " + digit + " 1;", string);
            reason("drop " + digit + " 1;", string);
            reason("tell " + digit + " 1;", digit < 2 ? 0 : 2);
            reason("tell 1 " + digit + ";", 0);
            reason("untie " + digit + ";", digit == 0 ? 3 : 2);
            reason("pull 0 " + digit + ";", digit == 0 ? 2 : 0);
            reason("drop 0 " + digit + ";", digit == 0 ? 2 : 0);
            reason("pass " + digit + ";", digit == 0 ? 2 : 0);
        }
        // with all shades and strings there can be
        String full = "shade(6,18) ".repeat(8) + "string(1,2) ".repeat(4);
        new Used(full + "type('pull 3 9;tell 7 9;') fault(0)=NONE play()=2 stringOf(3,2)=100009 shadeOf(7,8)=9");
        new Used(full + "type('pull 4 9;') fault(1)=2");
        new Used(full + "type('tell 8 9;') fault(1)=2");
        new Used(full + "type('untie 6;') fault(1)=3");
        new Used(full + "type('untie 7;') fault(1)=2");
        new Used(full + "type('untie 8;') fault(1)=2");
        new Used(full + "type('drop 3 9;') play()=1 stringOf(3,2)=99991 pull(3,9) stringOf(3,2)=100000");
    }

    private static void reason(String text, int reason) {
        Used x = new Used(GREENHOUSE);
        x.typeAll(text);
        Check.due("position of '" + text + "'", x.fault(0), reason == 0 ? Check.NONE : 0);
        Check.due("reason of '" + text + "'", x.fault(1), reason == 0 ? Check.NONE : reason);
        Check.due("cause of '" + text + "'", x.fault(2), Check.NONE);
        Check.due("play of '" + text + "'", x.play(), reason == 0 ? 1 : Check.IMPOSSIBLE);
    }

    /** "a text of at most 60 characters"; "LIMIT_REACHED if it has 60 characters" */
    private static void sixtyCharacters() {
        String eight = "pass 1;".repeat(8);
        new Used("type('" + eight + "') count(12)=56 fault(0)=NONE play()=8 count(6)=8 count(12)=56");
        // 60 characters that are all orders
        String full = "pull 0 1;".repeat(5) + "untie 0;" + "pass 1;";
        Check.due("the length of a full text", full.length(), 60);
        String tied = "shade(6,18) shade(6,18) string(1,0) string(1,2) string(2,0) set(0,1) pull(2,1) pull(1,1)=3 "
                + "shadeOf(0,0)=1 shadeOf(1,0)=0 shadeOf(0,3)=1 ";
        new Used(tied + "type('" + full + "') count(12)=60 type(32)=LIMIT type(59)=LIMIT count(12)=60 fault(0)=NONE "
                + "play()=7 shadeOf(0,0)=6 shadeOf(1,0)=5 shadeOf(0,3)=0 count(6)=1 count(12)=60 clearText()=60 "
                + "count(12)=0 type(32)=1");
        // the last ';' is missing, as the text is full
        String six = "pass 1;".repeat(6);
        badForm(six + "pull 0 1;pull 0 11", 51, 8);
        badForm(six + "tell 0 11;pull 0 1", 42, 8);
        badForm("pass 1;".repeat(8) + "pass", 56, 4);
        badForm("pass 1;".repeat(8) + "pas1", 56, 0);
        badForm("pass 1;".repeat(7) + "untie 0 ;;;", 49, 7);
        badForm("a".repeat(60), 0, 0);
        badForm(";".repeat(60), 0, 0);
        badForm("pull" + " ".repeat(56), 0, 5);
        badForm("pull" + "0".repeat(56), 0, 4);
    }

    /** "Returns the length of the text"; "Returns the length it had" */
    private static void typesAndEmpties() {
        Used x = new Used();
        for (int length = 1; length <= 60; length++) {
            Check.due("type", x.type(31 + length), length);
            Check.due("the length", x.count(12), length);
        }
        x.run("type(32)=LIMIT type(126)=LIMIT type(31)=INVALID type(127)=INVALID count(12)=60 clearText()=60 "
                + "clearText()=0 type(126)=1 type(31)=INVALID type(127)=INVALID count(12)=1 clearText()=1");
        for (int length = 0; length <= 60; length++) {
            new Used("type('" + "p".repeat(length) + "') count(12)=" + length + " clearText()=" + length
                    + " count(12)=0");
        }
    }
}

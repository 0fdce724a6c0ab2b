/** Promises 19 and 20: type and clearText. */
public final class TextTest {
    public static void main(String[] arguments) {
        Used x = new Used();
        Check.due("empty", x.clearText(), 0);
        Check.due("31", x.type(31), Check.INVALID);
        Check.due("127", x.type(127), Check.INVALID);
        Check.due("least number", x.type(Integer.MIN_VALUE), Check.INVALID);
        Check.due("greatest number", x.type(Integer.MAX_VALUE), Check.INVALID);
        Check.due("a letter behind 16 bits", x.type(65536 + 'a'), Check.INVALID);
        Check.due("errors type nothing", x.count(12), 0);
        Check.due("32", x.type(32), 1);
        Check.due("126", x.type(126), 2);
        for (int length = 3; length <= 60; length++) {
            Check.due("sign " + length, x.type('a'), length);
        }
        Check.due("a sign too many", x.type('a'), Check.LIMIT);
        Check.due("a wrong sign too many", x.type(127), Check.INVALID);
        Check.due("60 signs", x.count(12), 60);
        Check.due("no change", x.count(11), 0);
        Check.due("the length it had", x.clearText(), 60);
        Check.due("empty", x.count(12), 0);
        Check.due("empty again", x.clearText(), 0);
        Check.due("no change", x.undo(), Check.IMPOSSIBLE);

        Check.type(x, "pass 1;");
        Check.due("a text that is emptied leaves nothing behind", x.fault(0), Check.NONE);
        Check.due("its length", x.clearText(), 7);
        Check.type(x, "pas");
        Check.due("but the new text", x.fault(0), 0);
        Check.due("which ends early", x.fault(2), 0);
        Check.end();
    }
}

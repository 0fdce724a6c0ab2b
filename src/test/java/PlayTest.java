/** Promise 22: play. */
public final class PlayTest {
    public static void main(String[] arguments) {
        empty();
        doesAll();
        doesNoneWithAFault();
        seesTheGreenhouseAsItIs();
        Check.end();
    }

    private static void empty() {
        Used x = new Used();
        Check.due("no orders", x.play(), 0);
        Check.due("a change all the same", x.count(11), 1);
        Check.due("and back", x.undo(), 0);
    }

    private static void doesAll() {
        Used x = Check.withShades(3);
        x.string(3, 0);
        x.string(2, 1);
        x.set(0, 1);
        Check.type(x, "pull 0 4;drop 1 2;tell 2 0;pass 9;tell 0 5;");
        Check.due("five orders", x.play(), 5);
        Check.due("0 was pulled, and pulled up", x.shadeOf(0, 0), 5);
        Check.due("1 was pulled, and pulled down", x.shadeOf(1, 0), 3);
        Check.due("a knot and a jam", x.shadeOf(0, 3), 2);
        Check.due("steps", x.stringOf(0, 2), 100004);
        Check.due("steps let go", x.stringOf(1, 2), 99998);
        Check.due("jams", x.stringOf(1, 3), 1);
        Check.due("told", x.shadeOf(2, 9), 1);
        Check.due("told", x.shadeOf(0, 9), 1);
        Check.due("hours", x.count(6), 9);
        Check.due("the hour", x.count(5), 15);
        Check.due("light", x.shadeOf(0, 6), 16 + 12 + 8 + 4);
        Check.due("the text stays", x.count(12), 43);
        Check.due("one change", x.undo(), 3);
        Check.due("all is taken back", x.shadeOf(0, 0), 0);
        Check.due("hours too", x.count(6), 0);
        Check.due("the setting is not", x.count(20), 1);
        Check.due("the text stays", x.play(), 5);
        x.clearText();
        Check.due("what was done stays without it", x.count(6), 9);

        Used y = Check.withShades(2);
        y.string(1, 0);
        y.string(2, 1);
        y.set(0, 1);
        Check.type(y, "pull 0 3;pull 1 2;untie 0;untie 0;");
        Check.due("four orders", y.play(), 4);
        Check.due("no knot", y.count(2), 0);
        Check.due("one came", y.count(10), 1);
    }

    private static void doesNoneWithAFault() {
        Used x = Check.withShades(2);
        x.string(3, 0);
        String[] texts = {"pull 0 4;x", "pull 0 4;pull 0", "pull 0 4;pull 1 1;", "pull 0 4;untie 0;", "untie 0;"};
        for (String text : texts) {
            Check.retype(x, text);
            Check.due("play of '" + text + "'", x.play(), Check.IMPOSSIBLE);
            Check.due("nothing is done", x.shadeOf(0, 0), 0);
            Check.due("nothing is recorded", x.count(11), 3);
            Check.due("the text stays", x.count(12), text.length());
        }
    }

    private static void seesTheGreenhouseAsItIs() {
        Used x = Check.withShades(1);
        Check.type(x, "pull 0 4;");
        Check.due("no string yet", x.play(), Check.IMPOSSIBLE);
        x.string(1, 0);
        Check.due("a string now", x.play(), 1);
        Check.due("again", x.play(), 1);
        Check.due("8", x.shadeOf(0, 0), 8);
        Check.due("again, up to the end", x.play(), 1);
        Check.due("9", x.shadeOf(0, 0), 9);
        Check.due("each is a change", x.undo(), 3);
        Check.due("8", x.shadeOf(0, 0), 8);
    }
}

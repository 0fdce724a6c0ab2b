/** Promise 4: pull, with the terms of a step. */
public final class PullTest {
    public static void main(String[] arguments) {
        arguments();
        movesAndEnds();
        letsGo();
        tiesAndJams();
        tiesOnlyWhatMovesApart();
        tiesByTheSetting();
        carriesAlong();
        severalGroups();
        Check.end();
    }

    private static void heights(Used x, int... due) {
        for (int shade = 0; shade < due.length; shade++) {
            Check.due("the height of " + shade, x.shadeOf(shade, 0), due[shade]);
        }
    }

    private static void arguments() {
        Used x = Check.withShades(1);
        Check.due("no string", x.pull(0, 1), Check.INVALID);
        x.string(1, 0);
        Check.due("string -1", x.pull(-1, 1), Check.INVALID);
        Check.due("string 1", x.pull(1, 1), Check.INVALID);
        Check.due("0 steps", x.pull(0, 0), Check.INVALID);
        Check.due("10 steps", x.pull(0, 10), Check.INVALID);
        Check.due("-10 steps", x.pull(0, -10), Check.INVALID);
        Check.due("least steps", x.pull(0, Integer.MIN_VALUE), Check.INVALID);
        Check.due("greatest numbers", x.pull(Integer.MAX_VALUE, Integer.MAX_VALUE), Check.INVALID);
        Check.due("errors record nothing", x.count(11), 2);
        Check.due("errors count no steps", x.stringOf(0, 2), 100000);
    }

    private static void movesAndEnds() {
        Used x = Check.withShades(3);
        x.string(5, 2);
        x.string(1, 0);
        Check.due("1 is open already", x.pull(0, 1), 5);
        heights(x, 1, 0, 1);
        Check.due("0 alone", x.pull(1, 3), 1);
        heights(x, 4, 0, 1);
        Check.due("0 is closed ahead of 2", x.pull(0, 6), 5);
        heights(x, 9, 0, 7);
        Check.due("only 2 has still to go", x.pull(0, 9), 4);
        heights(x, 9, 0, 9);
        Check.due("none moves", x.pull(0, 1), 0);
        Check.due("steps that move nothing count", x.stringOf(0, 2), 100017);
        Check.due("and are a change", x.count(11), 4);
        Check.due("which can be taken back", x.undo(), 3);
        Check.due("steps as before", x.stringOf(0, 2), 100016);
    }

    private static void letsGo() {
        Used x = Check.withShades(2);
        x.string(1, 2);
        Check.due("let go, 1 goes up", x.pull(0, -9), 2);
        heights(x, 0, 9);
        Check.due("less than 100000", x.stringOf(0, 2), 99991);
        Check.due("no knot, as 0 did not move", x.count(2), 0);
        Check.due("both move now", x.pull(0, 2), 3);
        heights(x, 1, 8);
        Check.due("the first step tied, the second one jammed", x.shadeOf(0, 3), 2);
        Check.due("one jam", x.stringOf(0, 3), 1);
    }

    private static void tiesAndJams() {
        Used x = Check.withShades(2);
        x.string(3, 0);
        x.string(1, 2);
        Check.due("both up", x.pull(0, 5), 3);
        Check.due("apart by 2", x.pull(1, 1), 3);
        Check.due("no knot", x.shadeOf(0, 3), 0);
        Check.due("apart by 4", x.pull(1, 1), 3);
        Check.due("a knot", x.shadeOf(0, 3), 1);
        Check.due("one came", x.count(10), 1);
        Check.due("a jam", x.pull(1, 1), 0);
        heights(x, 7, 3);
        Check.due("deeper", x.shadeOf(0, 3), 2);
        Check.due("a jam by letting go", x.pull(1, -1), 0);
        Check.due("deepest", x.shadeOf(0, 3), 3);
        Check.due("more jams", x.pull(1, 2), 0);
        Check.due("no deeper", x.shadeOf(0, 3), 3);
        Check.due("each jam counts", x.stringOf(1, 3), 4);
        Check.due("not for the other string", x.stringOf(0, 3), 0);
        Check.due("no other knot came", x.count(10), 1);
        Check.due("together up to the end", x.pull(0, 9), 3);
        heights(x, 9, 5);
        Check.due("one closed holds both", x.pull(0, 1), 0);
        Check.due("together down to the end", x.pull(0, -9), 3);
        heights(x, 4, 0);
        Check.due("one open holds both", x.pull(0, -1), 0);
        Check.due("an end is no jam", x.stringOf(0, 3), 0);
    }

    private static void tiesOnlyWhatMovesApart() {
        Used x = Check.withShades(2);
        x.string(1, 0);
        x.string(2, 1);
        Check.due("one moves far from the other", x.pull(0, 9), 1);
        Check.due("no knot", x.count(2), 0);
        Check.due("unlike ways, nearer by that", x.pull(1, 1), 3);
        Check.due("a knot all the same", x.shadeOf(0, 3), 1);

        Used y = Check.withShades(3);
        y.string(5, 0);
        y.string(1, 4);
        y.pull(0, 5);
        Check.due("unlike ways, but no neighbors", y.pull(1, 4), 5);
        Check.due("no knot", y.count(2), 0);
    }

    private static void tiesByTheSetting() {
        Used x = Check.withShades(2);
        x.string(3, 0);
        x.string(1, 2);
        x.set(0, 9);
        x.pull(0, 4);
        Check.due("apart by 8", x.pull(1, 4), 3);
        Check.due("no knot", x.count(2), 0);
        x.set(0, 1);
        Check.due("a setting ties nothing by itself", x.count(2), 0);
        Check.due("not together when far", x.pull(0, 1), 3);
        Check.due("same way ties nothing", x.count(2), 0);
        Check.due("let go by one step", x.pull(1, -1), 3);
        Check.due("a knot", x.count(2), 1);

        Used y = Check.withShades(2);
        y.string(3, 0);
        y.string(1, 2);
        y.set(0, 2);
        y.pull(0, 5);
        Check.due("five steps: one moves, four jam", y.pull(1, 5), 3);
        heights(y, 6, 4);
        Check.due("deepest", y.shadeOf(0, 3), 3);
        Check.due("four jams", y.stringOf(1, 3), 4);
        y.pull(1, -1);
        Check.due("five jams", y.stringOf(1, 3), 5);

        Used z = Check.withShades(2);
        z.string(3, 0);
        z.string(1, 2);
        z.set(0, 3);
        z.pull(0, 5);
        z.pull(1, 1);
        Check.due("2 is less than 3", z.count(2), 0);
        z.pull(1, 1);
        Check.due("4 is more than 3", z.count(2), 1);
    }

    private static void carriesAlong() {
        Used x = Check.withShades(4);
        x.string(3, 0);
        x.string(1, 2);
        x.string(1, 0);
        x.string(6, 0);
        x.pull(0, 5);
        x.pull(1, 2);
        heights(x, 7, 3, 0, 0);
        Check.due("one pulls the other along", x.pull(2, 1), 3);
        heights(x, 8, 4, 0, 0);
        Check.due("and down", x.pull(2, -2), 3);
        heights(x, 6, 2, 0, 0);
        Check.due("a group and a single one", x.pull(3, 4), 7);
        heights(x, 9, 5, 4, 0);
        Check.due("same way, no second knot", x.count(2), 1);
    }

    private static void severalGroups() {
        Used x = Check.withShades(8);
        x.string(0xFF, 0);
        x.string(0x55, 0xAA);
        x.string(0x01, 0x80);
        x.string(0x0F, 0xF0);
        x.pull(0, 4);
        x.set(0, 2);
        Check.due("all neighbors apart", x.pull(1, 1), 0xFF);
        Check.due("seven knots", x.count(2), 7);
        Check.due("one group", x.groupAt(0), 0xFF);
        Check.due("a jam by its ends", x.pull(2, 1), 0);
        Check.due("is one jam", x.stringOf(2, 3), 1);
        Check.due("that deepens all its knots", x.count(3), 14);

        Used y = Check.withShades(8);
        y.string(0xFF, 0);
        y.string(0x03 << 2, 0xC3);
        y.string(0x05, 0x0A);
        y.string(0x55, 0xAA);
        y.pull(0, 4);
        y.set(0, 2);
        Check.due("0, 1 and 6, 7 down, 2, 3 up, 4, 5 stay", y.pull(1, 1), 0xCF);
        Check.due("a knot only where unlike", y.shadeOf(1, 3), 1);
        Check.due("no other one", y.count(2), 1);
        Check.due("two neighbors and one stays", y.pull(2, 1), 0x09);
        heights(y, 4, 3, 5, 4, 4, 4, 3, 3);
        Check.due("the group of 1 and 2 jams", y.shadeOf(1, 3), 2);
        Check.due("a knot needs both to move", y.count(2), 1);
        Check.due("others move when one group jams", y.pull(3, 1), 0xF9);
        heights(y, 5, 3, 5, 3, 5, 3, 4, 2);
        Check.due("one group jammed", y.stringOf(3, 3), 1);
        Check.due("knots behind 1, 3, 4 and 6", y.count(2), 4);
        Check.due("0 with 1: 1 jammed", y.shadeOf(0, 3), 0);
        Check.due("2 with 3: 2 jammed", y.shadeOf(2, 3), 0);
        Check.due("5 with 6: moved apart by 1 only", y.shadeOf(5, 3), 0);
        Check.due("then three groups jam at once", y.pull(3, 1), 0x01);
        Check.due("a jam each", y.stringOf(3, 3), 4);
    }
}

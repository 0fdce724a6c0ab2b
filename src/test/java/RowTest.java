/** The terms of shades and strings: rows that are empty and full, neighbors, heights, groups. */
public final class RowTest {
    private static final String FOUR = "shade(6,18)=0 shade(6,18)=1 shade(6,18)=2 shade(6,18)=3 ";
    private static final String EIGHT = FOUR + "shade(6,18)=4 shade(6,18)=5 shade(6,18)=6 shade(6,18)=7 ";

    public static void main(String[] arguments) {
        noShade();
        eightShades();
        noString();
        fourStrings();
        heightsAtFirst();
        neighbors();
        groupsOfAllKnots();
        letGoTheOtherWayRound();
        Check.end();
    }

    /** A row without shades: "INVALID_ARGUMENT: .. there is no such shade or string". */
    private static void noShade() {
        new Used("count(0)=0 count(4)=0 groupAt(0)=NONE shadeOf(0,0)=INVALID bestHeight(0,0)=INVALID "
                + "untie(0)=INVALID tell(0,0)=INVALID string(1,0)=INVALID string(0,1)=INVALID "
                + "leastPulls(-1)=0 reallyDo()=1 untell()=0 pass(24)=0 count(2)=0 count(3)=0 count(7)=0 "
                + "count(8)=0 count(9)=0 count(10)=0");
    }

    /** "There are at most 8 shades in a row, numbered from 0"; "LIMIT_REACHED if there are 8". */
    private static void eightShades() {
        new Used(EIGHT + "shade(6,18)=LIMIT shade(0,0)=LIMIT shade(23,36)=LIMIT count(0)=8 count(4)=8 "
                + "shadeOf(7,1)=6 shadeOf(8,1)=INVALID groupAt(7)=128 groupAt(8)=NONE tell(7,9)=0 tell(8,9)=INVALID "
                + "string(128,127)=0 pull(0,9)=128 shadeOf(7,0)=9 shadeOf(7,9)=1 would(0,1,17)=9 would(0,1,18)=INVALID "
                + "untie(6)=IMPOSSIBLE untie(7)=INVALID bestHeight(7,0)=2 bestHeight(8,0)=INVALID");
        new Used(EIGHT + "undo()=3 count(0)=7 shade(1,2)=7 shadeOf(7,1)=1 shade(1,2)=LIMIT");
    }

    private static void noString() {
        new Used(FOUR + "count(1)=0 pull(0,1)=INVALID stringOf(0,0)=INVALID would(0,1,0)=INVALID "
                + "leastPulls(0)=INVALID leastPulls(-1)=0 reallyDo()=1 tell(3,0)=1 leastPulls(-1)=0 reallyDo()=1 "
                + "tell(3,1)=0 leastPulls(-1)=NONE reallyDo()=NONE");
    }

    /** "There are at most 4 strings, numbered from 0"; "LIMIT_REACHED if there are 4". */
    private static void fourStrings() {
        String four = FOUR + "string(1,0)=0 string(2,0)=1 string(4,0)=2 string(0,8)=3 ";
        new Used(four + "string(1,0)=LIMIT string(1,2)=LIMIT string(0,15)=LIMIT count(1)=4 "
                + "stringOf(3,1)=8 stringOf(4,1)=INVALID pull(3,-2)=8 pull(4,1)=INVALID shadeOf(3,0)=2 "
                + "would(3,2,13)=0 would(4,2,13)=INVALID leastPulls(3)=100 leastPulls(4)=INVALID");
        new Used(four + "undo()=3 count(1)=3 string(8,0)=3 stringOf(3,0)=8 string(8,0)=LIMIT");
    }

    /** "A shade stands at a height from 0 (open) to 9 (closed), 0 at first." */
    private static void heightsAtFirst() {
        for (int shades = 1; shades <= 8; shades++) {
            Used x = new Used("shade(6,18) ".repeat(shades));
            for (int shade = 0; shade < shades; shade++) {
                Check.due("the height of " + shade + " at first", x.shadeOf(shade, 0), 0);
            }
        }
        // a shade that is added behind others that have moved, too
        new Used("shade(6,18) string(1,0) pull(0,9)=1 shade(6,18)=1 shadeOf(1,0)=0 shadeOf(0,0)=9");
    }

    /** "the shades k and k + 1 are neighbors": no others, and not those at the ends of the row. */
    private static void neighbors() {
        for (int up = 0; up < 8; up++) {
            for (int down = 0; down < 8; down++) {
                if (up != down) {
                    Used x = new Used(EIGHT + "string(255,0)=0 pull(0,5)=255 set(0,1)=4");
                    x.string(1 << up, 1 << down);
                    Check.due(up + " up, " + down + " down", x.pull(1, 1), 1 << up | 1 << down);
                    boolean areNeighbors = Math.abs(up - down) == 1;
                    Check.due("knots of " + up + " and " + down, x.count(2), areNeighbors ? 1 : 0);
                    for (int shade = 0; shade < 8; shade++) {
                        boolean lower = areNeighbors && shade == Math.min(up, down);
                        Check.due("the knot behind " + shade, x.shadeOf(shade, 3), lower ? 1 : 0);
                    }
                }
            }
        }
    }

    /**
     * "Shades hang together if there is a knot between them, or if both hang together with a third
     * one; a group is a shade and all that hang together with it." All the ways in which 8 shades
     * can be tied: bit k of ties is for the knot behind k.
     */
    private static void groupsOfAllKnots() {
        for (int ties = 0; ties < 128; ties++) {
            int ups = upsFor(ties);
            Used x = new Used(EIGHT + "string(255,0)=0 pull(0,5)=255 set(0,1)=4");
            x.string(ups, 255 - ups);
            Check.due("all move", x.pull(1, 1), 255);
            Check.due("knots of " + ties, x.count(2), Integer.bitCount(ties));
            Check.due("depths of " + ties, x.count(3), Integer.bitCount(ties));
            Check.due("knots that came of " + ties, x.count(10), Integer.bitCount(ties));
            int place = 0;
            int jams = 0;
            int single = 0;
            for (int low = 0; low < 8; place++) {
                int group = groupFrom(low, ties);
                Check.due("group " + place + " of " + ties, x.groupAt(place), group);
                int size = Integer.bitCount(group);
                for (int shade = low; shade < low + size; shade++) {
                    Check.due("the group of " + shade + " of " + ties, x.shadeOf(shade, 4), group);
                }
                jams += size > 1 ? 1 : 0;
                single |= size == 1 ? group : 0;
                low += size;
            }
            Check.due("groups of " + ties, x.count(4), place);
            Check.due("no group behind " + ties, x.groupAt(place), Check.NONE);
            Check.due("single ones move", x.pull(1, 1), single);
            Check.due("each other group jams", x.stringOf(1, 3), jams);
            Check.due("and is tied deeper", x.count(3), 2 * Integer.bitCount(ties));
        }
    }

    /** Neighbors that are to be tied go unlike ways, all others the same way. */
    private static int upsFor(int ties) {
        int ups = 1;
        for (int shade = 1; shade < 8; shade++) {
            boolean isTied = (ties >> shade - 1 & 1) == 1;
            boolean lowerIsUp = (ups >> shade - 1 & 1) == 1;
            ups |= isTied != lowerIsUp ? 1 << shade : 0;
        }
        return ups;
    }

    private static int groupFrom(int low, int ties) {
        int group = 1 << low;
        for (int shade = low; (ties >> shade & 1) == 1; shade++) {
            group |= 2 << shade;
        }
        return group;
    }

    /** "if it is let go, it is the other way round" */
    private static void letGoTheOtherWayRound() {
        String row = FOUR + "string(15,0)=0 pull(0,5)=15 ";
        new Used(row + "string(1,8)=1 pull(1,2)=9 shadeOf(0,0)=7 shadeOf(3,0)=3 shadeOf(1,0)=5");
        new Used(row + "string(1,8)=1 pull(1,-2)=9 shadeOf(0,0)=3 shadeOf(3,0)=7 shadeOf(1,0)=5");
        // one of both sets may be empty
        new Used(row + "string(0,4)=1 pull(1,3)=4 shadeOf(2,0)=2 pull(1,-3)=4 shadeOf(2,0)=5");
        new Used(row + "string(4,0)=1 pull(1,3)=4 shadeOf(2,0)=8 pull(1,-3)=4 shadeOf(2,0)=5");
    }
}

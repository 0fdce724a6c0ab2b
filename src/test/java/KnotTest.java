/** The terms of untying: heights that differ by 1 at most, depths 1 to 3, and 0, with which it is gone. */
public final class KnotTest {
    private static final String TWO = "shade(6,18)=0 shade(6,18)=1 ";
    private static final String EIGHT = "shade(6,18) ".repeat(8);
    /** Shades 0 and 1 at 3 and 4, tied by string 1; string 0 moves both. */
    private static final String TIED_1_APART = "string(3,0)=0 string(1,2)=1 string(1,0)=2 set(0,1)=4 pull(0,3)=3 "
            + "pull(2,1)=1 pull(1,-1)=3 shadeOf(0,0)=3 shadeOf(1,0)=4 shadeOf(0,3)=1 ";
    private static final String TIED_2_APART = "string(3,0)=0 string(1,2)=1 set(0,2)=4 pull(0,5)=3 pull(1,1)=3 "
            + "shadeOf(0,0)=6 shadeOf(1,0)=4 shadeOf(0,3)=1 ";

    public static void main(String[] arguments) {
        allHeightsOfTwo();
        eachDepth();
        gone();
        apartBy2();
        wherever();
        noKnot();
        theLowerOne();
        onlyThatKnot();
        Check.end();
    }

    /** "if the heights of both shades differ by 1 at most", from all heights at which a knot comes */
    private static void allHeightsOfTwo() {
        int untied = 0;
        for (int low = 0; low <= 9; low++) {
            for (int high = 0; high <= 9; high++) {
                for (int way = -1; way <= 1; way += 2) {
                    Used x = new Used(TWO + "string(1,0)=0 string(2,0)=1 string(1,2)=2 set(0,1)=4");
                    if (low > 0) {
                        x.pull(0, low);
                    }
                    if (high > 0) {
                        x.pull(1, high);
                    }
                    x.pull(2, way);
                    int lower = x.shadeOf(0, 0);
                    int upper = x.shadeOf(1, 0);
                    boolean isTied = x.shadeOf(0, 3) == 1;
                    boolean isNear = lower == upper || lower == upper + 1 || upper == lower + 1;
                    x.run("untie(0)=" + (isTied && isNear ? "0" : "IMPOSSIBLE"));
                    x.run("shadeOf(0,3)=" + (isTied && !isNear ? 1 : 0));
                    untied += isTied && isNear ? 1 : 0;
                }
            }
        }
        // from 1 apart to 1 apart across each other, and from 3 apart: each one way and the other
        Check.due("pairs that are untied", untied, 2 * 9 + 2 * 7);
    }

    /** "Returns its depth then": by 1 each time */
    private static void eachDepth() {
        new Used(TWO + TIED_1_APART + "untie(0)=0 count(2)=0");
        new Used(TWO + TIED_1_APART + "pull(1,1)=0 shadeOf(0,3)=2 untie(0)=1 shadeOf(0,3)=1 untie(0)=0 count(2)=0");
        new Used(TWO + TIED_1_APART + "pull(1,2)=0 shadeOf(0,3)=3 untie(0)=2 shadeOf(0,3)=2 count(3)=2 untie(0)=1 "
                + "shadeOf(0,3)=1 count(3)=1 untie(0)=0 shadeOf(0,3)=0 count(3)=0 untie(0)=IMPOSSIBLE");
        new Used(TWO + TIED_1_APART + "pull(1,9)=0 shadeOf(0,3)=3 untie(0)=2 pull(1,1)=0 shadeOf(0,3)=3 untie(0)=2");
    }

    /** "with the depth 0 it is gone": both go their own ways, and no longer hang together */
    private static void gone() {
        new Used(TWO + TIED_1_APART + "tell(0,9)=0 shadeOf(0,9)=2 groupAt(0)=3 count(4)=1 untie(0)=0 shadeOf(0,9)=0 "
                + "groupAt(0)=1 groupAt(1)=2 count(4)=2 count(2)=0 count(10)=1 pull(2,1)=1 shadeOf(0,0)=4 "
                + "shadeOf(1,0)=4");
        // with the depth 1 it is not
        new Used(TWO + TIED_1_APART + "pull(1,1)=0 untie(0)=1 groupAt(0)=3 count(2)=1 pull(2,1)=3 shadeOf(1,0)=5");
        // one that is gone lets a new one come
        new Used(TWO + TIED_1_APART + "untie(0)=0 pull(1,1)=3 shadeOf(0,3)=1 count(10)=2");
    }

    /** "NOT_POSSIBLE if .. it cannot be untied" */
    private static void apartBy2() {
        new Used(TWO + TIED_2_APART + "untie(0)=IMPOSSIBLE shadeOf(0,3)=1 count(11)=4");
        new Used(TWO + TIED_2_APART + "pull(1,2)=0 untie(0)=IMPOSSIBLE shadeOf(0,3)=3");
        // the setting is for knots that come, not for those that are there
        new Used(TWO + TIED_2_APART + "set(0,9)=2 untie(0)=IMPOSSIBLE set(0,1)=9 untie(0)=IMPOSSIBLE");
        new Used(TWO + TIED_1_APART + "set(0,9)=1 untie(0)=0");
    }

    /** At both ends of the heights, too. */
    private static void wherever() {
        new Used(TWO + TIED_1_APART + "pull(0,9)=3 shadeOf(0,0)=8 shadeOf(1,0)=9 untie(0)=0");
        new Used(TWO + TIED_1_APART + "pull(0,-9)=3 shadeOf(0,0)=0 shadeOf(1,0)=1 untie(0)=0");
        new Used(TWO + TIED_2_APART + "pull(0,9)=3 shadeOf(0,0)=9 shadeOf(1,0)=7 untie(0)=IMPOSSIBLE");
        new Used(TWO + TIED_2_APART + "pull(0,-9)=3 shadeOf(0,0)=2 shadeOf(1,0)=0 untie(0)=IMPOSSIBLE");
    }

    /** "NOT_POSSIBLE if there is no knot": also if the heights are alike */
    private static void noKnot() {
        for (int shade = 0; shade < 7; shade++) {
            new Used(EIGHT + "untie(" + shade + ")=IMPOSSIBLE count(11)=4");
        }
        new Used(EIGHT + "untie(7)=INVALID untie(8)=INVALID untie(-1)=INVALID count(11)=4");
    }

    /** "number of the lower one of both shades" */
    private static void theLowerOne() {
        for (int shade = 0; shade < 7; shade++) {
            String both = (1 << shade) + "," + (2 << shade);
            Used x = new Used(EIGHT + "string(255,0)=0 string(" + both + ")=1 string(" + (1 << shade) + ",0)=2 "
                    + "set(0,1)=4 pull(0,3)=255 pull(2,1) pull(1,-1) shadeOf(" + shade + ",3)=1 count(2)=1");
            for (int other = 0; other < 7; other++) {
                if (other != shade) {
                    Check.due("no knot behind " + other, x.untie(other), Check.IMPOSSIBLE);
                }
            }
            x.run("untie(7)=INVALID count(2)=1 untie(" + shade + ")=0 count(2)=0");
        }
    }

    private static void onlyThatKnot() {
        String all = "shade(6,18) ".repeat(3) + "string(7,0)=0 string(5,2)=1 string(5,0)=2 set(0,1)=4 pull(0,3)=7 "
                + "pull(2,1)=5 pull(1,-1)=7 shadeOf(0,0)=3 shadeOf(1,0)=4 shadeOf(2,0)=3 pull(1,1)=0 count(3)=4 ";
        new Used(all + "untie(0)=1 shadeOf(0,3)=1 shadeOf(1,3)=2 untie(0)=0 shadeOf(1,3)=2 groupAt(0)=1 groupAt(1)=6");
        new Used(all + "untie(1)=1 shadeOf(0,3)=2 shadeOf(1,3)=1 untie(1)=0 shadeOf(0,3)=2 groupAt(0)=3 groupAt(1)=4");
    }
}

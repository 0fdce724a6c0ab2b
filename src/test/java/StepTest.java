/** The terms of a step, sentence by sentence, with the heights 0 and 9 and depths 1 to 3. */
public final class StepTest {
    private static final String TWO = "shade(6,18)=0 shade(6,18)=1 ";
    private static final String THREE = TWO + "shade(6,18)=2 ";
    private static final String FOUR = THREE + "shade(6,18)=3 ";
    /** Shades 0 and 1 at 6 and 4, tied by string 1, the setting 0 being 2 then. */
    private static final String TIED = "string(3,0)=0 string(1,2)=1 set(0,2)=4 pull(0,5)=3 pull(1,1)=3 "
            + "shadeOf(0,3)=1 ";

    public static void main(String[] arguments) {
        oneStepAfterTheOther();
        oneShadeAtAllHeights();
        wantsNothing();
        jams();
        jamsAtTheEnds();
        deepensUpTo3();
        deepensOnlyItsKnots();
        movesTogether();
        standsAt9();
        standsAt0();
        allHeightsOfTwo();
        knotsNeedBothMoved();
        knotsOfCarriedShades();
        knotsInOneStep();
        knotsThatAreThere();
        anotherHeight();
        Check.end();
    }

    /** "means so many steps, one after the other" */
    private static void oneStepAfterTheOther() {
        for (int steps = 1; steps <= 9; steps++) {
            // the knot comes in the second step, and the third one is the first to jam
            new Used(TWO + "string(3,0)=0 string(1,2)=1 pull(0,5)=3 pull(1," + steps + ")=3 shadeOf(0,0)="
                    + (5 + Math.min(2, steps)) + " shadeOf(1,0)=" + (5 - Math.min(2, steps))
                    + " shadeOf(0,3)=" + Math.min(3, Math.max(0, steps - 1))
                    + " stringOf(1,3)=" + Math.max(0, steps - 2) + " stringOf(1,2)=" + (100000 + steps)
                    + " count(10)=" + (steps >= 2 ? 1 : 0));
            Used single = new Used(TWO + "string(3,0)=0 string(1,2)=1 pull(0,5)=3");
            for (int step = 0; step < steps; step++) {
                single.run("pull(1,1)");
            }
            single.run("shadeOf(0,3)=" + Math.min(3, Math.max(0, steps - 1))
                    + " stringOf(1,3)=" + Math.max(0, steps - 2));
        }
    }

    /** "move by 1 that way, unless one of them stands at 9 (up), or at 0 (down)" */
    private static void oneShadeAtAllHeights() {
        for (int height = 0; height <= 9; height++) {
            for (int steps = -9; steps <= 9; steps++) {
                if (steps != 0) {
                    Used x = new Used("shade(6,18)=0 string(1,0)=0");
                    if (height > 0) {
                        x.pull(0, height);
                    }
                    int after = Math.max(0, Math.min(9, height + steps));
                    int moved = after == height ? 0 : 1;
                    x.run("shadeOf(0,0)=" + height + " would(0," + steps + ",0)=" + moved + " would(0," + steps
                            + ",10)=" + after + " pull(0," + steps + ")=" + moved + " shadeOf(0,0)=" + after
                            + " stringOf(0,3)=0");
                }
            }
        }
    }

    /** "If no shade of the group wants anything, nothing happens with it." */
    private static void wantsNothing() {
        new Used(FOUR + TIED + "string(4,8)=2 pull(2,1)=4 shadeOf(0,0)=6 shadeOf(1,0)=4 shadeOf(0,3)=1 "
                + "pull(2,-1)=12 shadeOf(0,0)=6 shadeOf(1,0)=4 shadeOf(0,3)=1 stringOf(2,3)=0 count(2)=1");
        new Used(FOUR + "string(1,0)=0 pull(0,9)=1 shadeOf(1,0)=0 shadeOf(2,0)=0 shadeOf(3,0)=0");
    }

    /** "If some shade of the group wants up and some other one wants down, the group jams" */
    private static void jams() {
        new Used(TWO + TIED + "pull(1,1)=0 shadeOf(0,0)=6 shadeOf(1,0)=4 shadeOf(0,3)=2 stringOf(1,3)=1");
        new Used(TWO + TIED + "pull(1,-1)=0 shadeOf(0,0)=6 shadeOf(1,0)=4 shadeOf(0,3)=2 stringOf(1,3)=1");
        // the ones that want need not be neighbors, and one between them wants nothing
        String tied3 = THREE + "string(7,0)=0 string(5,2)=1 set(0,2)=4 pull(0,5)=7 pull(1,1)=7 count(2)=2 ";
        new Used(tied3 + "string(1,4)=2 pull(2,1)=0 shadeOf(0,3)=2 shadeOf(1,3)=2 stringOf(2,3)=1 "
                + "shadeOf(0,0)=6 shadeOf(1,0)=4 shadeOf(2,0)=6");
        // a step that jams in two groups is two jams
        new Used(FOUR + "string(15,0)=0 string(5,10)=1 string(9,6)=2 set(0,2)=4 pull(0,5)=15 pull(2,1)=15 "
                + "count(2)=2 shadeOf(0,4)=3 shadeOf(2,4)=12 pull(1,1)=0 stringOf(1,3)=2 stringOf(2,3)=0 "
                + "pull(1,9)=0 stringOf(1,3)=20");
        // one of two groups jams, and the other one moves
        new Used(THREE + TIED + "string(5,2)=2 pull(2,1)=4 shadeOf(0,0)=6 shadeOf(1,0)=4 shadeOf(2,0)=1 "
                + "stringOf(2,3)=1");
    }

    /** A group that jams does so wherever it stands: the ends are asked for only "otherwise". */
    private static void jamsAtTheEnds() {
        String at9 = TWO + TIED + "pull(0,9)=3 shadeOf(0,0)=9 shadeOf(1,0)=7 ";
        new Used(at9 + "pull(1,1)=0 shadeOf(0,3)=2 stringOf(1,3)=1 shadeOf(0,0)=9 shadeOf(1,0)=7");
        new Used(at9 + "pull(1,-1)=0 shadeOf(0,3)=2 stringOf(1,3)=1 shadeOf(0,0)=9 shadeOf(1,0)=7");
        String at0 = TWO + TIED + "pull(0,-9)=3 shadeOf(0,0)=2 shadeOf(1,0)=0 ";
        new Used(at0 + "pull(1,1)=0 shadeOf(0,3)=2 stringOf(1,3)=1 shadeOf(0,0)=2 shadeOf(1,0)=0");
        new Used(at0 + "pull(1,-1)=0 shadeOf(0,3)=2 stringOf(1,3)=1 shadeOf(0,0)=2 shadeOf(1,0)=0");
    }

    /** "each knot in it becomes deeper by 1, up to 3" */
    private static void deepensUpTo3() {
        new Used(TWO + TIED + "count(3)=1 pull(1,1)=0 shadeOf(0,3)=2 count(3)=2 pull(1,1)=0 shadeOf(0,3)=3 "
                + "count(3)=3 pull(1,1)=0 shadeOf(0,3)=3 count(3)=3 pull(1,9)=0 shadeOf(0,3)=3 stringOf(1,3)=12 "
                + "count(2)=1 count(10)=1");
        // in one pull
        for (int steps = 1; steps <= 9; steps++) {
            new Used(TWO + TIED + "pull(1," + steps + ")=0 shadeOf(0,3)=" + Math.min(3, 1 + steps)
                    + " stringOf(1,3)=" + steps);
        }
        // knots of unlike depths in one group: 3 stays, 1 becomes 2, then 3
        new Used(THREE + TIED + "pull(1,2)=0 shadeOf(0,3)=3 string(4,2)=2 pull(2,1)=7 shadeOf(0,3)=3 shadeOf(1,3)=1 "
                + "pull(2,1)=0 shadeOf(0,3)=3 shadeOf(1,3)=2 pull(2,1)=0 shadeOf(0,3)=3 shadeOf(1,3)=3 "
                + "pull(2,1)=0 shadeOf(0,3)=3 shadeOf(1,3)=3 count(3)=6 stringOf(2,3)=3");
    }

    /** "each knot in it": none of another group, which moves or does not want anything */
    private static void deepensOnlyItsKnots() {
        String twoPairs = FOUR + "string(15,0)=0 string(9,6)=1 set(0,2)=4 pull(0,5)=15 pull(1,1)=15 "
                + "shadeOf(0,3)=1 shadeOf(1,3)=0 shadeOf(2,3)=1 ";
        new Used(twoPairs + "string(1,2)=2 pull(2,1)=0 shadeOf(0,3)=2 shadeOf(1,3)=0 shadeOf(2,3)=1 stringOf(2,3)=1");
        new Used(twoPairs + "string(4,8)=2 pull(2,1)=0 shadeOf(0,3)=1 shadeOf(1,3)=0 shadeOf(2,3)=2 stringOf(2,3)=1");
        new Used(twoPairs + "string(5,8)=2 pull(2,1)=3 shadeOf(0,3)=1 shadeOf(2,3)=2 stringOf(2,3)=1");
        new Used(twoPairs + "string(6,1)=2 pull(2,1)=12 shadeOf(0,3)=2 shadeOf(2,3)=1 stringOf(2,3)=1");
        // a group of one has no knots to jam
        new Used(TWO + "string(1,2)=0 pull(0,1)=1 stringOf(0,3)=0 count(2)=0");
    }

    /** "Otherwise all shades of the group move by 1 that way" */
    private static void movesTogether() {
        new Used(THREE + TIED + "string(1,0)=2 pull(2,1)=3 shadeOf(0,0)=7 shadeOf(1,0)=5 shadeOf(2,0)=0");
        new Used(THREE + TIED + "string(2,0)=2 pull(2,1)=3 shadeOf(0,0)=7 shadeOf(1,0)=5");
        new Used(THREE + TIED + "string(0,2)=2 pull(2,1)=3 shadeOf(0,0)=5 shadeOf(1,0)=3");
        // by 1, however many of them want it
        new Used(THREE + TIED + "pull(0,1)=3 shadeOf(0,0)=7 shadeOf(1,0)=5 shadeOf(0,3)=1 stringOf(0,3)=0");
    }

    /** "unless one of them stands at 9 (up) .. then none of them moves" */
    private static void standsAt9() {
        String at8 = TWO + TIED + "pull(0,2)=3 shadeOf(0,0)=8 shadeOf(1,0)=6 ";
        new Used(at8 + "pull(0,1)=3 shadeOf(0,0)=9 shadeOf(1,0)=7 pull(0,1)=0 shadeOf(0,0)=9 shadeOf(1,0)=7 "
                + "stringOf(0,3)=0 shadeOf(0,3)=1");
        // also if the one at 9 wants nothing
        new Used(at8 + "string(2,0)=2 pull(2,1)=3 shadeOf(1,0)=7 pull(2,1)=0 shadeOf(1,0)=7 shadeOf(0,0)=9");
        // down it may go
        new Used(at8 + "pull(0,1)=3 pull(0,-1)=3 shadeOf(0,0)=8 shadeOf(1,0)=6");
        // two of them stand at 9
        new Used(THREE + "string(7,0)=0 string(5,2)=1 string(2,0)=2 set(0,2)=4 pull(0,5)=7 pull(1,1)=7 pull(0,3)=7 "
                + "shadeOf(0,0)=9 shadeOf(1,0)=7 shadeOf(2,0)=9 pull(0,1)=0 pull(2,1)=0 shadeOf(1,0)=7 pull(2,-1)=7");
        // one of another group that stands at 9 holds nobody
        new Used(THREE + "string(7,0)=0 string(1,0)=1 pull(1,9)=1 pull(0,3)=6 shadeOf(0,0)=9 shadeOf(1,0)=3");
    }

    /** "or at 0 (down): then none of them moves" */
    private static void standsAt0() {
        String at1 = TWO + TIED + "pull(0,-3)=3 shadeOf(0,0)=3 shadeOf(1,0)=1 ";
        new Used(at1 + "pull(0,-1)=3 shadeOf(0,0)=2 shadeOf(1,0)=0 pull(0,-1)=0 shadeOf(0,0)=2 shadeOf(1,0)=0 "
                + "stringOf(0,3)=0 shadeOf(0,3)=1");
        // also if the one at 0 wants nothing
        new Used(at1 + "string(0,1)=2 pull(2,1)=3 shadeOf(0,0)=2 pull(2,1)=0 shadeOf(0,0)=2 shadeOf(1,0)=0");
        // up it may go
        new Used(at1 + "pull(0,-1)=3 pull(0,1)=3 shadeOf(0,0)=3 shadeOf(1,0)=1");
        // two of them stand at 0
        new Used(THREE + "string(7,0)=0 string(2,5)=1 string(2,0)=2 set(0,2)=4 pull(0,5)=7 pull(1,1)=7 pull(0,-4)=7 "
                + "shadeOf(0,0)=0 shadeOf(1,0)=2 shadeOf(2,0)=0 pull(0,-1)=0 pull(2,-1)=0 shadeOf(1,0)=2 pull(2,1)=7");
        // one of another group that stands at 0 holds nobody
        new Used(THREE + "string(6,0)=0 string(0,7)=1 pull(0,3)=6 pull(1,2)=6 shadeOf(0,0)=0 shadeOf(1,0)=1");
    }

    /**
     * "if one has moved up and the other one down in this step, and their heights differ by setting 0
     * or more now, there is a knot with the depth 1": from all heights of both, for all settings.
     */
    private static void allHeightsOfTwo() {
        for (int low = 0; low <= 9; low++) {
            for (int high = 0; high <= 9; high++) {
                for (int setting = 1; setting <= 9; setting++) {
                    oneStepApart(low, high, setting, 1);
                    oneStepApart(low, high, setting, -1);
                }
            }
        }
    }

    private static void oneStepApart(int low, int high, int setting, int way) {
        Used x = new Used(TWO + "string(1,0)=0 string(2,0)=1 string(1,2)=2 set(0," + setting + ")=4");
        if (low > 0) {
            x.pull(0, low);
        }
        if (high > 0) {
            x.pull(1, high);
        }
        boolean lowMoves = low != (way > 0 ? 9 : 0);
        boolean highMoves = high != (way > 0 ? 0 : 9);
        int lowThen = lowMoves ? low + way : low;
        int highThen = highMoves ? high - way : high;
        int apart = lowThen > highThen ? lowThen - highThen : highThen - lowThen;
        int knot = lowMoves && highMoves && apart >= setting ? 1 : 0;
        int moved = (lowMoves ? 1 : 0) + (highMoves ? 2 : 0);
        x.run("would(2," + way + ",1)=" + knot + " pull(2," + way + ")=" + moved + " shadeOf(0,0)=" + lowThen
                + " shadeOf(1,0)=" + highThen + " shadeOf(0,3)=" + knot + " shadeOf(1,3)=0 count(2)=" + knot
                + " count(3)=" + knot + " count(10)=" + knot + " stringOf(2,3)=0");
    }

    /** "if one has moved up and the other one down in this step" */
    private static void knotsNeedBothMoved() {
        // the one behind wants nothing, then both move the same way
        new Used(TWO + "string(1,0)=0 string(3,0)=1 set(0,1)=4 pull(0,9)=1 count(2)=0 pull(0,-4)=1 count(2)=0 "
                + "pull(1,2)=3 count(2)=0 pull(1,-2)=3 count(2)=0");
        // the one behind jams in its group
        new Used(THREE + "string(7,0)=0 string(2,4)=1 string(3,4)=2 set(0,2)=4 pull(0,5)=7 pull(1,1)=6 shadeOf(1,3)=1 "
                + "pull(2,1)=1 shadeOf(0,3)=0 pull(2,-1)=1 shadeOf(0,3)=0 shadeOf(1,3)=3");
        // one has moved up in an earlier step, the other one down in this one
        new Used(TWO + "string(1,0)=0 string(0,2)=1 string(2,0)=2 set(0,1)=4 pull(2,5)=2 pull(0,9)=1 pull(1,3)=2 "
                + "shadeOf(0,0)=9 shadeOf(1,0)=2 count(2)=0");
        // 9 ends the way of one of them in the second step of a pull, when the other one goes on
        new Used(TWO + "string(1,0)=0 string(2,0)=1 string(1,2)=2 set(0,5)=4 pull(0,8)=1 pull(1,9)=2 pull(2,9)=3 "
                + "shadeOf(0,0)=9 shadeOf(1,0)=0 count(2)=0");
    }

    /** One that is carried along by its group has moved, too. */
    private static void knotsOfCarriedShades() {
        String carried = THREE + "string(7,0)=0 string(1,2)=1 set(0,2)=4 pull(0,5)=7 pull(1,1)=3 shadeOf(0,3)=1 "
                + "shadeOf(0,0)=6 shadeOf(1,0)=4 shadeOf(2,0)=5 ";
        // 1 goes down with 0, 2 goes up
        new Used(carried + "string(4,1)=2 pull(2,1)=7 shadeOf(1,0)=3 shadeOf(2,0)=6 shadeOf(1,3)=1 shadeOf(0,3)=1 "
                + "count(10)=2 shadeOf(2,4)=7");
        // 1 goes up with 0, 2 goes up, too
        new Used(carried + "string(5,0)=2 pull(2,1)=7 shadeOf(1,0)=5 shadeOf(2,0)=6 shadeOf(1,3)=0");
        // a knot with the one ahead: 1 and 2 are tied, 2 goes up and takes 1 along, 0 goes down
        new Used(THREE + "string(7,0)=0 string(4,2)=1 set(0,2)=4 pull(0,5)=7 pull(1,1)=6 shadeOf(1,3)=1 shadeOf(1,0)=4 "
                + "string(4,1)=2 pull(2,1)=7 shadeOf(0,0)=4 shadeOf(1,0)=5 shadeOf(0,3)=0 pull(2,1)=7 shadeOf(0,0)=3 "
                + "shadeOf(1,0)=6 shadeOf(0,3)=1 count(10)=2");
    }

    /** "of all neighbors without a knot": as many knots as there are such neighbors */
    private static void knotsInOneStep() {
        new Used(THREE + "string(7,0)=0 string(5,2)=1 set(0,2)=4 pull(0,5)=7 pull(1,1)=7 shadeOf(0,3)=1 shadeOf(1,3)=1 "
                + "count(2)=2 count(3)=2 count(10)=2 groupAt(0)=7 groupAt(1)=NONE");
        // the first pair is not far enough apart, the second one is
        new Used(THREE + "string(7,0)=0 string(1,0)=1 string(2,5)=2 set(0,4)=4 pull(0,5)=7 pull(1,2)=1 pull(2,2)=7 "
                + "shadeOf(0,0)=5 shadeOf(1,0)=7 shadeOf(2,0)=3 shadeOf(0,3)=0 shadeOf(1,3)=1");
    }

    /** "of all neighbors without a knot": one that is there does not come again */
    private static void knotsThatAreThere() {
        new Used(TWO + TIED + "count(10)=1 pull(1,3)=0 count(10)=1 pull(0,1)=3 count(10)=1 shadeOf(0,3)=3");
        // one that is gone comes again, with the depth 1
        new Used(TWO + "string(1,0)=0 string(1,2)=1 string(2,0)=2 set(0,1)=4 pull(0,4)=1 pull(2,3)=2 pull(1,-1)=3 "
                + "shadeOf(0,0)=3 shadeOf(1,0)=4 shadeOf(0,3)=1 pull(1,1)=0 shadeOf(0,3)=2 untie(0)=1 untie(0)=0 "
                + "count(2)=0 count(10)=1 pull(1,1)=3 shadeOf(0,0)=4 shadeOf(1,0)=3 shadeOf(0,3)=1 count(10)=2");
    }

    /** "Returns the set of shades that stand at another height then" */
    private static void anotherHeight() {
        // all of 8, none, and only the carried ones besides
        new Used("shade(6,18) ".repeat(8) + "string(255,0)=0 pull(0,9)=255 pull(0,9)=0 pull(0,-9)=255 pull(0,-1)=0");
        new Used(THREE + TIED + "string(5,0)=2 pull(2,3)=7 pull(2,1)=4 pull(2,6)=4 pull(2,1)=0");
        new Used("shade(6,18) ".repeat(8) + "string(128,0)=0 pull(0,1)=128");
    }
}

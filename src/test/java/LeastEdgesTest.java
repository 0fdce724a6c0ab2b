/** Promises 14 and 15 at their ends: -9 and 9 steps, none told, all told, heights beyond 0 and 9, ties. */
public final class LeastEdgesTest {
    public static void main(String[] arguments) {
        noneTold();
        allStandThere();
        eachNumberOfSteps();
        tenSteps();
        greatestSum();
        beyondTheHeights();
        knotsDoNotMatter();
        ofSeveralTheLowest();
        noSuchPulls();
        really();
        reallyStringByString();
        Check.end();
    }

    private static String least(int sum, int... steps) {
        StringBuilder run = new StringBuilder("leastPulls(-1)=" + sum);
        for (int string = 0; string < steps.length; string++) {
            run.append(" leastPulls(").append(string).append(")=").append(100 + steps[string]);
        }
        return run.append(' ').toString();
    }

    private static void noneTold() {
        new Used(least(0) + "reallyDo()=1");
        new Used("shade(6,18) " + least(0) + "reallyDo()=1");
        new Used("shade(6,18) shade(6,18) string(3,0) string(1,2) pull(0,4) " + least(0, 0, 0) + "reallyDo()=1");
        new Used("shade(6,18) string(1,0) tell(0,5) untell()=1 " + least(0, 0) + "reallyDo()=1");
    }

    private static void allStandThere() {
        new Used("shade(6,18) tell(0,0)=1 " + least(0) + "reallyDo()=1");
        new Used("shade(6,18) shade(6,18) string(3,0) string(1,2) string(2,0) pull(0,4) tell(0,4)=1 tell(1,4)=2 "
                + least(0, 0, 0, 0) + "reallyDo()=1");
    }

    /** "for each string a number of steps, -9 to 9": each of them, pulled or let go, as a shade is pulled up or down */
    private static void eachNumberOfSteps() {
        for (int height = 0; height <= 9; height++) {
            for (int told = 0; told <= 9; told++) {
                int way = told - height;
                int far = Math.abs(way);
                Used up = new Used("shade(6,18) string(1,0)");
                Used down = new Used("shade(6,18) string(0,1)");
                if (height > 0) {
                    up.pull(0, height);
                    down.pull(0, -height);
                }
                up.run("tell(0," + told + ") " + least(far, way) + "reallyDo()=1 leastPulls(1)=INVALID");
                down.run("tell(0," + told + ") " + least(far, -way) + "reallyDo()=1");
            }
        }
    }

    /** 9 steps are the most: what needs 10 of one string is not possible, or falls to others. */
    private static void tenSteps() {
        String two = "shade(6,18) shade(6,18) string(1,0) string(3,0) ";
        // 1 from 1 to 0 lets string 1 go by 1, so that 0 needs 9 and 1 more
        new Used(two + "pull(1,1) pull(0,-1) tell(1,0) tell(0,8) " + least(10, 9, -1) + "reallyDo()=1");
        new Used(two + "pull(1,1) pull(0,-1) tell(1,0) tell(0,9) leastPulls(-1)=NONE leastPulls(0)=NONE "
                + "leastPulls(1)=NONE leastPulls(2)=INVALID reallyDo()=NONE");
        new Used(two + "string(1,0) pull(1,1) pull(0,-1) tell(1,0) tell(0,9) " + least(11, 1, -1, 9));
        new Used(two + "string(0,1) pull(1,1) pull(0,-1) tell(1,0) tell(0,9) " + least(11, 1, -1, -9));
        // the same down: 0 from 9 to 0 with 1 from 0 to 1
        new Used(two + "pull(0,9) tell(1,1) tell(0,1) " + least(10, -9, 1) + "reallyDo()=1");
        new Used(two + "pull(0,9) tell(1,1) tell(0,0) leastPulls(-1)=NONE reallyDo()=NONE");
    }

    /** Four strings by 9 steps each. */
    private static void greatestSum() {
        String four = "shade(6,18) ".repeat(4) + "string(1,0) string(2,0) string(0,4) string(8,0) ";
        new Used(four + "pull(3,9) tell(0,9) tell(1,9) tell(2,9) tell(3,0) "
                + least(36, 9, 9, -9, -9) + "reallyDo()=1");
        new Used(four + "tell(3,9) " + least(9, 0, 0, 0, 9) + "reallyDo()=1");
        String eight = "shade(6,18) ".repeat(8) + "string(17,0) string(34,0) string(68,0) string(136,0) ";
        StringBuilder all = new StringBuilder(eight);
        for (int shade = 0; shade < 8; shade++) {
            all.append("tell(").append(shade).append(",9) ");
        }
        new Used(all + least(36, 9, 9, 9, 9) + "reallyDo()=1");
    }

    /** "if .. heights below 0 and above 9 could be" */
    private static void beyondTheHeights() {
        String two = "shade(6,18) shade(6,18) string(3,0) string(2,0) ";
        // 0 is told nothing and would be below 0, and the pull that is done holds it at 0
        new Used("shade(6,18) shade(6,18) string(1,2) tell(1,5) " + least(5, -5) + "reallyDo()=1");
        new Used("shade(6,18) shade(6,18) string(3,0) pull(0,9) string(2,1) tell(1,9) tell(0,5) " + least(4, -2, 2)
                + "reallyDo()=1");
        // with 1 it would go above 9 and come back
        new Used("shade(6,18) shade(6,18) string(3,0) string(1,0) pull(1,4) tell(0,4) tell(1,9) " + least(18, 9, -9)
                + "reallyDo()=0");
        new Used("shade(6,18) shade(6,18) string(3,0) string(1,0) string(0,2) pull(2,-9) tell(0,0) tell(1,4) "
                + "leastPulls(-1)=5 " + least(5, 0, 0, 5) + "reallyDo()=1");
        new Used(two + "pull(1,9) tell(0,5) tell(1,9) " + least(10, 5, -5) + "reallyDo()=0");
        new Used(two + "pull(0,9) tell(0,4) tell(1,9) " + least(10, -5, 5) + "reallyDo()=1");
        new Used(two + "pull(0,4) tell(0,0) tell(1,9) " + least(13, -4, 9) + "reallyDo()=1");
    }

    /** "if there were no knots, none came" */
    private static void knotsDoNotMatter() {
        String tied = "shade(6,18) shade(6,18) string(3,0) string(1,2) set(0,2) pull(0,5) pull(1,1) shadeOf(0,3)=1 ";
        new Used(tied + "tell(0,7) tell(1,3) " + least(1, 0, 1) + "reallyDo()=0");
        new Used(tied + "tell(0,5) tell(1,5) " + least(1, 0, -1) + "reallyDo()=0");
        new Used(tied + "tell(0,9) tell(1,7) " + least(3, 3, 0) + "reallyDo()=1");
        new Used(tied + "string(1,0) tell(0,7) tell(1,4) " + least(1, 0, 0, 1) + "reallyDo()=0");
        new Used(tied + "string(1,0) tell(0,7) " + least(1, 0, 0, 1) + "reallyDo()=1");
        // a knot that would come in the second step
        String level = "shade(6,18) shade(6,18) string(3,0) string(1,2) pull(0,5) ";
        new Used(level + "tell(0,7) tell(1,3) " + least(2, 0, 2) + "reallyDo()=1");
        new Used(level + "tell(0,8) tell(1,2) " + least(3, 0, 3) + "reallyDo()=0 set(0,5)=4 reallyDo()=1");
    }

    /** "of several the one whose first string has the lowest number of steps (.. -9 is the lowest), then the second" */
    private static void ofSeveralTheLowest() {
        String one = "shade(6,18) ";
        new Used(one + "string(1,0) ".repeat(4) + "tell(0,3) " + least(3, 0, 0, 0, 3));
        new Used(one + "string(1,0) ".repeat(4) + "tell(0,9) " + least(9, 0, 0, 0, 9));
        new Used(one + "string(1,0) ".repeat(4) + "pull(0,9) tell(0,0) " + least(9, -9, 0, 0, 0));
        new Used(one + "string(0,1) ".repeat(4) + "tell(0,3) " + least(3, -3, 0, 0, 0));
        new Used(one + "string(0,1) ".repeat(4) + "tell(0,9) " + least(9, -9, 0, 0, 0));
        new Used(one + "string(0,1) ".repeat(4) + "pull(0,-9) tell(0,0) " + least(9, 0, 0, 0, 9));
        new Used(one + "string(1,0) string(0,1) string(1,0) string(0,1) tell(0,4) " + least(4, 0, -4, 0, 0));
        new Used(one + "string(1,0) string(1,0) string(0,1) pull(0,9) tell(0,4) " + least(5, -5, 0, 0));
        // the same pair either way round
        String pair = "shade(6,18) shade(6,18) string(3,0) string(1,2) string(2,1) pull(0,5) ";
        new Used(pair + "tell(0,7) tell(1,3) " + least(2, 0, 0, -2));
        new Used(pair + "tell(0,3) tell(1,7) " + least(2, 0, -2, 0));
        // both together or each alone: the least sum comes first
        String more = "shade(6,18) shade(6,18) string(1,0) string(2,0) string(3,0) ";
        new Used(more + "tell(0,5) tell(1,5) " + least(5, 0, 0, 5));
        new Used(more + "tell(0,5) tell(1,4) " + least(5, 1, 0, 4));
        new Used(more + "tell(0,4) tell(1,5) " + least(5, 0, 1, 4));
        new Used(more + "tell(0,4) tell(1,6) " + least(6, 0, 2, 4));
        // -1 comes ahead of 0, and 0 ahead of 1: both together and one apart, or 1 alone
        String apart = "shade(6,18) shade(6,18) string(3,0) string(1,2) string(2,0) pull(0,5) ";
        new Used(apart + "tell(0,5) tell(1,3) " + least(2, -1, 1, 0));
        new Used(apart + "tell(0,5) tell(1,7) " + least(2, 0, 0, 2));
        // the first strings have the same steps, and the second ones do not
        String second = "shade(6,18) shade(6,18) shade(6,18) string(4,0) string(3,0) string(1,2) string(2,0) pull(1,5) "
                + "tell(2,3) ";
        new Used(second + "tell(0,5) tell(1,3) " + least(5, 3, -1, 1, 0));
        new Used(second + "tell(0,5) tell(1,7) " + least(5, 3, 0, 0, 2));
    }

    /** "NOT_FOUND if there are no such pulls" */
    private static void noSuchPulls() {
        // no string, none that pulls the shade, and two shades that only go together
        new Used("shade(6,18) tell(0,1) leastPulls(-1)=NONE reallyDo()=NONE");
        new Used("shade(6,18) shade(6,18) string(2,0) tell(0,1) leastPulls(-1)=NONE leastPulls(0)=NONE "
                + "reallyDo()=NONE");
        new Used("shade(6,18) shade(6,18) string(3,0) tell(0,1) tell(1,2) leastPulls(-1)=NONE leastPulls(0)=NONE "
                + "reallyDo()=NONE tell(1,1) " + least(1, 1) + "reallyDo()=1");
        new Used("shade(6,18) shade(6,18) string(3,0) string(1,2) tell(0,1) tell(1,0) leastPulls(-1)=NONE "
                + "leastPulls(1)=NONE reallyDo()=NONE");
    }

    /** "Returns 1 if they would, otherwise 0"; nothing is done by it */
    private static void really() {
        new Used("shade(6,18) string(1,0) tell(0,9) reallyDo()=1 shadeOf(0,0)=0 stringOf(0,2)=100000 count(11)=3 "
                + "pull(0,9) reallyDo()=1 tell(0,0) reallyDo()=1");
        // one shade arrives and the other one does not
        new Used("shade(6,18) shade(6,18) shade(6,18) string(6,0) string(2,4) string(1,0) set(0,2) pull(0,5) tell(0,2) "
                + "tell(1,7) tell(2,3) " + least(4, 0, 2, 2) + "reallyDo()=0");
    }

    /** "done string by string": in the order of their numbers, each with all its steps */
    private static void reallyStringByString() {
        // 0 has to go up with 1 by string 0, then 1 down by string 1
        new Used("shade(6,18) shade(6,18) string(3,0) string(0,2) tell(0,4) tell(1,1) "
                + least(7, 4, 3) + "reallyDo()=1");
        // the other way round 1 would go down at 0, which it cannot
        new Used("shade(6,18) shade(6,18) string(0,2) string(3,0) tell(0,4) tell(1,1) "
                + least(7, 3, 4) + "reallyDo()=0");
        // at 9 the same: 1 would go up first
        new Used("shade(6,18) shade(6,18) string(2,0) string(3,0) pull(1,9) tell(0,5) tell(1,8) " + least(7, 3, -4)
                + "reallyDo()=0");
        new Used("shade(6,18) shade(6,18) string(3,0) string(2,0) pull(0,9) tell(0,5) tell(1,8) " + least(7, -4, 3)
                + "reallyDo()=1");
    }
}

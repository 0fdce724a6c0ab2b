/** The terms of places told: standing there, being tangled, both or neither, at the ends of row and heights. */
public final class PlacesTest {
    private static final String EIGHT = "shade(6,18) ".repeat(8);

    public static void main(String[] arguments) {
        allHeights();
        toldAgain();
        tangledAtEachPlace();
        standsThoughTangled();
        noneAndAllTold();
        forgets();
        Check.end();
    }

    /** "It stands where told if it has this height": 0 and 9 among these */
    private static void allHeights() {
        for (int height = 0; height <= 9; height++) {
            for (int told = 0; told <= 9; told++) {
                Used x = new Used("shade(6,18) string(1,0)");
                if (height > 0) {
                    x.pull(0, height);
                }
                int stands = height == told ? 1 : 0;
                x.run("shadeOf(0,8)=NONE shadeOf(0,9)=NONE count(7)=0 count(8)=0 tell(0," + told + ")=" + stands
                        + " shadeOf(0,8)=" + told + " shadeOf(0,9)=" + stands + " count(7)=1 count(8)=" + stands
                        + " count(9)=0");
            }
        }
    }

    /** "Returns how many shades stand where told then": of all shades, not only of this one */
    private static void toldAgain() {
        new Used("shade(6,18) shade(6,18) shade(6,18) tell(0,0)=1 tell(1,0)=2 tell(2,1)=2 tell(2,0)=3 tell(0,9)=2 "
                + "tell(0,9)=2 shadeOf(0,8)=9 count(7)=3 count(8)=2");
        // it comes to where it is told, and leaves again
        new Used("shade(6,18) string(1,0) tell(0,3)=0 pull(0,2) count(8)=0 pull(0,1) count(8)=1 shadeOf(0,9)=1 "
                + "pull(0,1) count(8)=0 shadeOf(0,9)=0 shadeOf(0,8)=3");
    }

    /** "it is tangled if there is a knot between it and a neighbor": the lower one or the upper one */
    private static void tangledAtEachPlace() {
        for (int low = 0; low < 7; low++) {
            Used x = new Used(EIGHT + "string(255,0) string(" + (1 << low) + "," + (2 << low) + ") set(0,2) pull(0,5) "
                    + "pull(1,1) count(2)=1");
            for (int shade = 0; shade < 8; shade++) {
                boolean isTangled = shade == low || shade == low + 1;
                x.run("tell(" + shade + ",0) shadeOf(" + shade + ",9)=" + (isTangled ? 2 : 0));
            }
            x.run("count(7)=8 count(8)=0 count(9)=2");
        }
        // between two knots
        new Used(EIGHT + "string(255,0) string(5,2) set(0,2) pull(0,5) pull(1,1) tell(1,0) shadeOf(1,9)=2 count(9)=1 "
                + "tell(3,0) shadeOf(3,9)=0 count(9)=1");
    }

    /** "1 if it stands where told, 2 if it does not and is tangled, otherwise 0" */
    private static void standsThoughTangled() {
        new Used("shade(6,18) shade(6,18) string(3,0) string(1,2) set(0,2) pull(0,5) pull(1,1) tell(0,6)=1 "
                + "shadeOf(0,9)=1 tell(1,4)=2 shadeOf(1,9)=1 count(8)=2 count(9)=0 tell(1,5)=1 shadeOf(1,9)=2 "
                + "count(8)=1 count(9)=1");
        // tangled, but nothing is told
        new Used("shade(6,18) shade(6,18) string(3,0) string(1,2) set(0,2) pull(0,5) pull(1,1) shadeOf(0,9)=NONE "
                + "count(9)=0");
    }

    /** count: "7: shades for which a height is told; 8: those of them that stand there" */
    private static void noneAndAllTold() {
        new Used("count(7)=0 count(8)=0 count(9)=0 untell()=0");
        new Used(EIGHT + "count(7)=0 count(8)=0 count(9)=0 untell()=0");
        Used x = new Used(EIGHT);
        for (int shade = 0; shade < 8; shade++) {
            x.run("tell(" + shade + ",0)=" + (shade + 1) + " count(7)=" + (shade + 1) + " count(8)=" + (shade + 1));
        }
        x.run("untell()=8 count(7)=0 count(8)=0 untell()=0");
    }

    /** "Returns how many there were." */
    private static void forgets() {
        new Used(EIGHT + "tell(7,9)=0 untell()=1 shadeOf(7,8)=NONE shadeOf(7,9)=NONE tell(7,0)=1 tell(0,0)=2 "
                + "tell(7,9)=1 untell()=2 untell()=0 count(7)=0 undo()=3 undo()=2 count(7)=2 shadeOf(7,8)=9");
    }
}

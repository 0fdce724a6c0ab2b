/**
 * "If several errors apply to a call, INVALID_ARGUMENT is returned rather than NOT_POSSIBLE,
 * NOT_POSSIBLE rather than LIMIT_REACHED, and LIMIT_REACHED rather than NOT_FOUND."
 */
public final class ErrorOrderTest {
    private static final String EIGHT = "shade(6,18) ".repeat(8);

    public static void main(String[] arguments) {
        invalidAheadOfNotPossible();
        invalidAheadOfLimit();
        invalidAheadOfNotFound();
        reasonsOfAnOrder();
        Check.end();
    }

    /** untie of the last shade of a row without knots: none is behind it, and there is no knot. */
    private static void invalidAheadOfNotPossible() {
        new Used("untie(0)=INVALID untie(-1)=INVALID");
        for (int shades = 1; shades <= 8; shades++) {
            new Used("shade(6,18) ".repeat(shades) + "untie(" + (shades - 1) + ")=INVALID untie(" + shades
                    + ")=INVALID untie(-1)=INVALID" + (shades > 1 ? " untie(" + (shades - 2) + ")=IMPOSSIBLE" : ""));
        }
    }

    private static void invalidAheadOfLimit() {
        new Used(EIGHT + "shade(-1,18)=INVALID shade(24,18)=INVALID shade(6,-1)=INVALID shade(6,37)=INVALID "
                + "shade(24,37)=INVALID shade(6,18)=LIMIT");
        new Used(EIGHT + "string(1,2) ".repeat(4) + "string(0,0)=INVALID string(1,1)=INVALID string(256,0)=INVALID "
                + "string(0,256)=INVALID string(-1,0)=INVALID string(255,128)=INVALID string(1,2)=LIMIT");
        new Used("shade(6,18) " + "string(1,0) ".repeat(4) + "string(2,0)=INVALID string(0,2)=INVALID "
                + "string(1,0)=LIMIT");
        new Used("type('" + "a".repeat(60) + "') type(31)=INVALID type(127)=INVALID type(-1)=INVALID type(32)=LIMIT "
                + "type(126)=LIMIT");
        // SunTest has pass at 20000 hours
    }

    private static void invalidAheadOfNotFound() {
        // no height is told
        new Used("shade(6,18) shadeOf(1,8)=INVALID shadeOf(1,9)=INVALID shadeOf(-1,8)=INVALID shadeOf(0,10)=INVALID "
                + "shadeOf(0,8)=NONE shadeOf(0,9)=NONE");
        // no group
        new Used("groupAt(-1)=INVALID groupAt(0)=NONE");
        // no pulls
        new Used("shade(6,18) tell(0,1) leastPulls(-1)=NONE leastPulls(0)=INVALID leastPulls(-2)=INVALID");
        new Used("shade(6,18) shade(6,18) string(1,0) tell(1,1) leastPulls(0)=NONE leastPulls(1)=INVALID "
                + "leastPulls(-1)=NONE leastPulls(-2)=INVALID reallyDo()=NONE");
        // no fault, or one without a cause
        new Used("fault(3)=INVALID fault(-1)=INVALID fault(2)=NONE");
        new Used("type('pass 0;') fault(3)=INVALID fault(-1)=INVALID fault(2)=NONE fault(1)=2");
    }

    /** An order's form is looked at ahead of its numbers, these ahead of what is not possible otherwise. */
    private static void reasonsOfAnOrder() {
        String three = "shade(6,18) shade(6,18) shade(6,18) string(1,2) ";
        new Used(three + "type('untie 2') fault(1)=1 type(' ') fault(1)=1");
        new Used(three + "type('untie 2;') fault(1)=2");
        new Used(three + "type('untie 1;') fault(1)=3");
        new Used(three + "type('pull 1 0') fault(1)=1 type(';') fault(1)=2");
        new Used(three + "type('pass 0x') fault(1)=1 fault(2)=6");
        // the first order that is not possible, whatever the reasons behind it
        new Used(three + "type('untie 0;pull 9 9;x') fault(0)=0 fault(1)=3 fault(2)=NONE");
        new Used(three + "type('pull 9 9;untie 0;x') fault(0)=0 fault(1)=2 fault(2)=NONE");
        new Used(three + "type('x;untie 0;pull 9 9;') fault(0)=0 fault(1)=1 fault(2)=0");
    }
}

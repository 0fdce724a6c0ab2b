/**
 * Promise 3, the sets of a string: "INVALID_ARGUMENT if a set has a bit for no shade, both have the
 * same shade, or both are empty".
 */
public final class StringSetsTest {
    public static void main(String[] arguments) {
        bitsForNoShade();
        theSameShadeInBoth();
        empty();
        allPairs();
        Check.end();
    }

    private static void due(int shades, int up, int down, boolean possible) {
        String run = "shade(6,18) ".repeat(shades) + "string(" + up + "," + down + ")=";
        if (possible) {
            new Used(run + "0 stringOf(0,0)=" + up + " stringOf(0,1)=" + down + " count(1)=1");
        } else {
            new Used(run + "INVALID count(1)=0 stringOf(0,0)=INVALID count(11)=" + Math.min(4, shades));
        }
    }

    /** "a set has a bit for no shade" */
    private static void bitsForNoShade() {
        for (int shades = 0; shades <= 8; shades++) {
            for (int bit = 0; bit < 32; bit++) {
                due(shades, 1 << bit, 0, bit < shades);
                due(shades, 0, 1 << bit, bit < shades);
            }
            int behind = 1 << shades;
            due(shades, behind | behind - 1, 0, false);
            due(shades, 0, behind | behind - 1, false);
            due(shades, behind, behind - 1, false);
            due(shades, behind - 1, behind, false);
            due(shades, -1, 0, false);
            due(shades, 0, -1, false);
            due(shades, Integer.MIN_VALUE, 1, false);
            due(shades, 1, Integer.MIN_VALUE, false);
            due(shades, Integer.MAX_VALUE, Integer.MIN_VALUE, false);
        }
    }

    /** "both have the same shade" */
    private static void theSameShadeInBoth() {
        for (int shade = 0; shade < 8; shade++) {
            int others = 255 - (1 << shade);
            due(8, 1 << shade, 1 << shade, false);
            due(8, 255, 1 << shade, false);
            due(8, 1 << shade, 255, false);
            due(8, 1 << shade, others, true);
            due(8, others, 1 << shade, true);
        }
        due(8, 255, 255, false);
    }

    /** "both are empty": one of them may be. */
    private static void empty() {
        for (int shades = 0; shades <= 8; shades++) {
            int all = (1 << shades) - 1;
            due(shades, 0, 0, false);
            due(shades, all, 0, shades > 0);
            due(shades, 0, all, shades > 0);
        }
    }

    private static void allPairs() {
        for (int shades = 0; shades <= 4; shades++) {
            for (int up = -2; up <= 17; up++) {
                for (int down = -2; down <= 17; down++) {
                    due(shades, up, down, isPossible(shades, up, down));
                }
            }
        }
    }

    private static boolean isPossible(int shades, int up, int down) {
        int any = 0;
        for (int bit = 0; bit < 32; bit++) {
            boolean isUp = (up >> bit & 1) == 1;
            boolean isDown = (down >> bit & 1) == 1;
            if (isUp && isDown || (isUp || isDown) && bit >= shades) {
                return false;
            }
            any += isUp || isDown ? 1 : 0;
        }
        return any > 0;
    }
}

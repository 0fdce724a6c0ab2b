/** Promise 16: bestHeight. */
public final class BestHeightTest {
    public static void main(String[] arguments) {
        Used x = new Used();
        Check.due("no shade", x.bestHeight(0, 0), Check.INVALID);
        x.shade(12, 18);
        Check.due("shade -1", x.bestHeight(-1, 0), Check.INVALID);
        Check.due("shade 1", x.bestHeight(1, 0), Check.INVALID);
        Check.due("what -1", x.bestHeight(0, -1), Check.INVALID);
        Check.due("what 2", x.bestHeight(0, 2), Check.INVALID);
        Check.due("least numbers", x.bestHeight(Integer.MIN_VALUE, Integer.MIN_VALUE), Check.INVALID);
        Check.due("greatest numbers", x.bestHeight(Integer.MAX_VALUE, Integer.MAX_VALUE), Check.INVALID);

        // in 7 hours the strengths are 3, 6, 9, 12, 9, 6, 3
        x.set(1, 0);
        best(x, 0, 0, 2);
        x.set(1, 4);
        // at 2 the light is 7, 14, 21, 28, so 14 and 21 are within 4 of 18, in two hours each
        best(x, 0, 2, 4);

        x.shade(0, 0);
        x.set(1, 0);
        // at 7 the lowest light is 2, at 8 it is 1, but 9 is dark all day
        best(x, 1, 9, 24);
        x.set(1, 1);
        // at 8 the light is 1, 2, 3, 4: only 1 is within 1 of 0
        best(x, 1, 9, 24);
        x.set(1, 4);
        best(x, 1, 8, 24);
        x.set(1, 36);
        best(x, 1, 0, 24);

        x.shade(23, 36);
        x.set(1, 0);
        best(x, 2, 0, 1);
        x.string(4, 0);
        x.pull(0, 9);
        x.pass(5);
        best(x, 2, 0, 1);
        x.shade(3, 35);
        best(x, 3, 0, 0);
        Check.due("reading is no change", x.undo(), 3);
        asStandingThere();
        whateverItIsNow();
        Check.end();
    }

    /** "if it stood there all day": each height is tried out by standing there, for all wants and leeways. */
    private static void asStandingThere() {
        for (int want = 0; want <= 36; want++) {
            for (int leeway = 0; leeway <= 36; leeway++) {
                int best = 0;
                int most = 0;
                for (int height = 0; height <= 9; height++) {
                    int hours = hoursAt(want, leeway, height);
                    // "of several the lowest"
                    best = hours > most ? height : best;
                    most = Math.max(hours, most);
                }
                new Used("shade(" + want % 24 + "," + want + ") set(1," + leeway + ") bestHeight(0,0)=" + best
                        + " bestHeight(0,1)=" + most);
            }
        }
    }

    private static int hoursAt(int want, int leeway, int height) {
        Used x = new Used("shade(" + want % 24 + "," + want + ") string(1,0) set(1," + leeway + ")");
        if (height > 0) {
            x.pull(0, height);
        }
        return x.pass(24);
    }

    private static void whateverItIsNow() {
        String best = "bestHeight(0,0)=2 bestHeight(0,1)=4 ";
        new Used("shade(12,18) string(1,0) " + best + "pull(0,9) " + best + "pass(7) " + best + "pass(24) " + best
                + "tell(0,3) " + best + "shade(6,0) " + best);
        // no height is well at all, or each is
        new Used("shade(12,35) set(1,0) bestHeight(0,0)=0 bestHeight(0,1)=0");
        new Used("shade(12,18) set(1,18) bestHeight(0,0)=0 bestHeight(0,1)=24");
        new Used("shade(12,36) set(1,36) bestHeight(0,0)=0 bestHeight(0,1)=24");
        // only when it is closed
        new Used("shade(12,0) set(1,0) bestHeight(0,0)=9 bestHeight(0,1)=24");
    }

    private static void best(Used x, int shade, int height, int hours) {
        Check.due("the best height of " + shade, x.bestHeight(shade, 0), height);
        Check.due("the hours of " + shade, x.bestHeight(shade, 1), hours);
    }
}

/** Promise 2: shade. */
public final class ShadeTest {
    public static void main(String[] arguments) {
        Used x = new Used();
        Check.due("shade(-1, 0)", x.shade(-1, 0), Check.INVALID);
        Check.due("shade(24, 0)", x.shade(24, 0), Check.INVALID);
        Check.due("shade(0, -1)", x.shade(0, -1), Check.INVALID);
        Check.due("shade(0, 37)", x.shade(0, 37), Check.INVALID);
        Check.due("shade of least numbers", x.shade(Integer.MIN_VALUE, Integer.MIN_VALUE), Check.INVALID);
        Check.due("shade of greatest numbers", x.shade(Integer.MAX_VALUE, Integer.MAX_VALUE), Check.INVALID);
        Check.due("errors add none", x.count(0), 0);
        Check.due("errors record nothing", x.count(11), 0);

        Check.due("shade(0, 0)", x.shade(0, 0), 0);
        Check.due("shade(23, 36)", x.shade(23, 36), 1);
        Check.due("the hour of 1", x.shadeOf(1, 1), 23);
        Check.due("the want of 1", x.shadeOf(1, 2), 36);
        Check.due("it is open", x.shadeOf(1, 0), 0);
        Check.due("it has no knot", x.shadeOf(0, 3), 0);
        Check.due("it got no light", x.shadeOf(1, 6), 0);
        Check.due("its plants were not well yet", x.shadeOf(1, 7), 0);
        Check.due("it is told nothing", x.shadeOf(1, 8), Check.NONE);
        Check.due("each is a change", x.count(11), 2);

        for (int shade = 2; shade < 8; shade++) {
            Check.due("shade " + shade, x.shade(12, 18), shade);
        }
        Check.due("a ninth shade", x.shade(12, 18), Check.LIMIT);
        Check.due("a wrong ninth shade", x.shade(24, 18), Check.INVALID);
        Check.due("there are 8", x.count(0), 8);
        Check.end();
    }
}

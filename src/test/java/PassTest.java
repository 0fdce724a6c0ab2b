/** Promise 8: pass, with the terms of the sun. */
public final class PassTest {
    public static void main(String[] arguments) {
        arguments();
        addsLight();
        countsWellPlants();
        roundTheClock();
        reachesTheLimit();
        Check.end();
    }

    private static void arguments() {
        Used x = Check.withShades(1);
        Check.due("-1 hours", x.pass(-1), Check.INVALID);
        Check.due("0 hours", x.pass(0), Check.INVALID);
        Check.due("25 hours", x.pass(25), Check.INVALID);
        Check.due("least number", x.pass(Integer.MIN_VALUE), Check.INVALID);
        Check.due("greatest number", x.pass(Integer.MAX_VALUE), Check.INVALID);
        Check.due("no hour went by", x.count(6), 0);
        Check.due("errors record nothing", x.count(11), 1);
        Used none = new Used();
        Check.due("without shades", none.pass(1), 0);
        Check.due("it is later", none.count(5), 7);
        Check.due("an hour so far", none.count(6), 1);
        Check.due("a change", none.count(11), 1);
    }

    private static void addsLight() {
        Used x = new Used();
        x.shade(8, 0);
        x.string(1, 0);
        int[] strengths = {6, 9, 12, 9, 6, 3, 0, 0};
        int light = 0;
        for (int hour = 0; hour < strengths.length; hour++) {
            Check.due("the light at " + (6 + hour), x.shadeOf(0, 5), 3 * strengths[hour]);
            x.pass(1);
            light += 3 * strengths[hour];
            Check.due("the light so far", x.shadeOf(0, 6), light);
        }
        Used y = new Used();
        y.shade(7, 0);
        y.string(1, 0);
        y.pull(0, 2);
        Check.due("9 times 7 thirds", y.shadeOf(0, 5), 21);
        y.pull(0, 5);
        Check.due("9 times 2 thirds", y.shadeOf(0, 5), 6);
        y.pass(1);
        Check.due("12 times 2 thirds", y.shadeOf(0, 5), 8);
        y.pull(0, 1);
        Check.due("12 times 1 third", y.shadeOf(0, 5), 4);
        y.pull(0, 1);
        Check.due("closed", y.shadeOf(0, 5), 0);
        Check.due("what it got stays", y.shadeOf(0, 6), 6);
    }

    private static void countsWellPlants() {
        Used x = new Used();
        // from 6 on the light of 0 is 36, 27, 18, 9, 0
        x.shade(6, 22);
        x.shade(6, 32);
        x.shade(6, 5);
        x.set(1, 4);
        Check.due("36 is within 4 of 32", x.pass(1), 1);
        Check.due("27 is not within 4 of 22 or 32", x.pass(1), 0);
        Check.due("18 is within 4 of 22", x.pass(1), 1);
        Check.due("9 and 0: 9 is within 4 of 5", x.pass(2), 1);
        Check.due("well once", x.shadeOf(0, 7), 1);
        Check.due("well once", x.shadeOf(1, 7), 1);
        Check.due("well once", x.shadeOf(2, 7), 1);
        Check.due("5 hours so far", x.count(6), 5);
        x.set(1, 5);
        Check.due("0 is within 5 of 5", x.pass(3), 3);
        Check.due("well four times", x.shadeOf(2, 7), 4);
        x.undo();
        Check.due("taken back", x.shadeOf(2, 7), 1);
        Check.due("the hour too", x.count(5), 11);
    }

    private static void roundTheClock() {
        Used x = new Used();
        x.shade(1, 0);
        x.shade(22, 0);
        x.pass(16);
        Check.due("22", x.count(5), 22);
        Check.due("3 hours over midnight", x.shadeOf(0, 5), 9);
        Check.due("at its hour", x.shadeOf(1, 5), 36);
        x.pass(1);
        Check.due("23", x.count(5), 23);
        x.pass(1);
        Check.due("0 behind 23", x.count(5), 0);
        Check.due("1 hour", x.shadeOf(0, 5), 27);
        Check.due("2 hours over midnight", x.shadeOf(1, 5), 18);
        x.pass(24);
        Check.due("a day on", x.count(5), 0);
        Check.due("hours so far", x.count(6), 42);
    }

    private static void reachesTheLimit() {
        Used x = new Used();
        Check.type(x, "pass 9;pass 9;pass 9;pass 9;pass 9;pass 9;pass 9;pass 9;");
        for (int day = 0; day < 277; day++) {
            Check.due("72 hours", x.play(), 8);
        }
        Check.due("hours so far", x.count(6), 19944);
        Check.due("too many by play", x.play(), Check.IMPOSSIBLE);
        Check.due("the seventh order would be too much", x.fault(0), 42);
        Check.due("for a reason of its own", x.fault(1), 3);
        Check.due("a day", x.pass(24), 0);
        Check.due("a day", x.pass(24), 0);
        Check.due("one more than 20000", x.pass(9), Check.LIMIT);
        Check.due("a wrong number is told first", x.pass(25), Check.INVALID);
        Check.due("changes nothing", x.count(6), 19992);
        Check.due("just 20000", x.pass(8), 0);
        Check.due("no more", x.pass(1), Check.LIMIT);
        Check.due("20000", x.count(6), 20000);
    }
}

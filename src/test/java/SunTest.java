/** The terms of the sun: the shorter way around, from 23 to 0, light, plants that are well, 20000 hours. */
public final class SunTest {
    /** The strength by the hours between, the shorter way around. */
    private static final int[] STRENGTHS = {12, 9, 6, 3, 0, 0, 0, 0, 0, 0, 0, 0, 0};
    /** 72 hours, with which 20000 hours can be reached within 512 calls. */
    private static final String THREE_DAYS = "pass 9;pass 9;pass 9;pass 9;pass 9;pass 9;pass 9;pass 9;";

    public static void main(String[] arguments) {
        hoursOfTheDay();
        allLights();
        lightSoFar();
        leeway();
        countsAllShadesAndHours();
        countsBeforeTheHourIsGreater();
        just20000();
        oneMoreThan20000();
        limitOfOrders();
        limitTakenBack();
        Check.end();
    }

    /** "The hour is 0 to 23, 6 at first"; "then the hour becomes greater by 1, behind 23 it is 0" */
    private static void hoursOfTheDay() {
        new Used("count(5)=6 pass(17)=0 count(5)=23 pass(1)=0 count(5)=0 count(6)=18 pass(1)=0 count(5)=1");
        new Used("pass(18)=0 count(5)=0");
        new Used("pass(24)=0 count(5)=6 count(6)=24 pass(24)=0 count(5)=6 count(6)=48");
        for (int hours = 1; hours <= 24; hours++) {
            int hour = hours <= 17 ? 6 + hours : hours - 18;
            new Used("pass(" + hours + ")=0 count(5)=" + hour + " count(6)=" + hours);
        }
        Used x = new Used();
        for (int hours = 1; hours <= 100; hours++) {
            x.run("pass(1)=0 count(5)=" + (hours + 6) % 24 + " count(6)=" + hours);
        }
    }

    /**
     * "12 less 3 for each hour between that one and the present one (by the shorter way around), and
     * at least 0"; "the strength times (9 less its height), divided by 3, rounded down"
     */
    private static void allLights() {
        for (int height = 0; height <= 9; height++) {
            for (int first = 0; first < 24; first += 8) {
                Used x = new Used();
                for (int sun = first; sun < first + 8; sun++) {
                    x.run("shade(" + sun + ",0)");
                }
                x.run("string(255,0)");
                if (height > 0) {
                    x.run("pull(0," + height + ")=255");
                }
                for (int hours = 0; hours < 24; hours++) {
                    int hour = (6 + hours) % 24;
                    for (int shade = 0; shade < 8; shade++) {
                        int strength = STRENGTHS[shorterWay(first + shade, hour)];
                        Check.due("the light at " + hour + " behind height " + height + " with the sun at "
                                + (first + shade), x.shadeOf(shade, 5), strength * (9 - height) / 3);
                    }
                    x.run("pass(1)");
                }
            }
        }
        new Used("shade(23,0) shade(0,0) pass(17) count(5)=23 shadeOf(0,5)=36 shadeOf(1,5)=27 "
                + "pass(1) count(5)=0 shadeOf(0,5)=27 shadeOf(1,5)=36");
        new Used("shade(18,0) shadeOf(0,5)=0 shade(2,0) shadeOf(1,5)=0 shade(3,0) shadeOf(2,5)=9 shade(9,0) "
                + "shadeOf(3,5)=9 shade(10,0) shadeOf(4,5)=0");
    }

    private static int shorterWay(int from, int to) {
        int forwards = 0;
        while ((from + forwards) % 24 != to) {
            forwards++;
        }
        int backwards = 0;
        while ((to + backwards) % 24 != from) {
            backwards++;
        }
        return Math.min(forwards, backwards);
    }

    /** "for each shade its light is added to what it got so far" */
    private static void lightSoFar() {
        for (int sun = 0; sun < 24; sun++) {
            // a day has 12 and twice 9, 6 and 3
            new Used("shade(" + sun + ",0) pass(24) shadeOf(0,6)=144 pass(24) shadeOf(0,6)=288");
            new Used("shade(" + sun + ",0) string(1,0) pull(0,8) pass(24) shadeOf(0,6)=16");
            new Used("shade(" + sun + ",0) string(1,0) pull(0,9) pass(24) shadeOf(0,6)=0");
        }
        new Used("shade(6,0) pass(1) shadeOf(0,6)=36 pass(1) shadeOf(0,6)=63 pass(2) shadeOf(0,6)=90 pass(17) "
                + "shadeOf(0,6)=90 count(5)=3 pass(1) shadeOf(0,6)=99");
        // one that is added later got nothing of the hours before
        new Used("shade(6,0) pass(2) shade(8,0) shadeOf(1,6)=0 pass(1) shadeOf(0,6)=81 shadeOf(1,6)=36");
    }

    /** "well in an hour if the light is from the want less setting 1 to the want plus setting 1" */
    private static void leeway() {
        for (int leeway = 0; leeway <= 36; leeway++) {
            for (int height = 0; height <= 9; height++) {
                for (int first = 0; first <= 36; first += 8) {
                    wellOfWants(leeway, height, first, Math.min(first + 7, 36));
                }
            }
        }
        // both ends and just beyond, with a leeway of 4 and the light 20
        String light20 = " string(1,0) pull(0,4)=1 shadeOf(0,5)=20 ";
        new Used("shade(6,16)" + light20 + "pass(1)=1");
        new Used("shade(6,24)" + light20 + "pass(1)=1");
        new Used("shade(6,15)" + light20 + "pass(1)=0");
        new Used("shade(6,25)" + light20 + "pass(1)=0");
        // no leeway
        new Used("shade(6,20)" + light20 + "set(1,0) pass(1)=1");
        new Used("shade(6,19)" + light20 + "set(1,0) pass(1)=0");
        new Used("shade(6,21)" + light20 + "set(1,0) pass(1)=0");
    }

    private static void wellOfWants(int leeway, int height, int first, int last) {
        Used x = new Used();
        for (int want = first; want <= last; want++) {
            x.run("shade(6," + want + ")");
        }
        x.run("string(" + ((1 << last - first + 1) - 1) + ",0) set(1," + leeway + ")=4");
        if (height > 0) {
            x.run("pull(0," + height + ")");
        }
        int light = 4 * (9 - height);
        int well = 0;
        for (int want = first; want <= last; want++) {
            well += light >= want - leeway && light <= want + leeway ? 1 : 0;
        }
        x.run("pass(1)=" + well);
        for (int want = first; want <= last; want++) {
            int due = light >= want - leeway && light <= want + leeway ? 1 : 0;
            x.run("shadeOf(" + (want - first) + ",7)=" + due);
        }
    }

    /** "Returns how often plants were well, of all shades and hours" */
    private static void countsAllShadesAndHours() {
        new Used("shade(6,18) ".repeat(8) + "set(1,36) pass(1)=8 pass(24)=192 shadeOf(0,7)=25 shadeOf(7,7)=25");
        new Used("shade(6,36) shade(7,36) shade(18,36) set(1,0) pass(1)=1 pass(1)=1 pass(10)=0 pass(1)=1 pass(24)=3 "
                + "shadeOf(0,7)=2 shadeOf(1,7)=2 shadeOf(2,7)=2");
        new Used("pass(24)=0");
        // in the dark plants that want none are well
        new Used("shade(6,0) set(1,0) pass(24)=17 shadeOf(0,7)=17");
    }

    /** "To let an hour go by means: .. then the hour becomes greater by 1" */
    private static void countsBeforeTheHourIsGreater() {
        new Used("shade(6,36) set(1,0) pass(1)=1 shadeOf(0,6)=36 pass(1)=0 shadeOf(0,6)=63");
        new Used("shade(7,36) set(1,0) pass(1)=0 shadeOf(0,6)=27 pass(1)=1 shadeOf(0,6)=63");
    }

    private static Used with19944Hours(String before) {
        Used x = new Used(before + "type('" + THREE_DAYS + "')");
        for (int days = 0; days < 831; days += 3) {
            x.run("play()=8");
        }
        return x.run("count(6)=19944 count(5)=6");
    }

    /** "LIMIT_REACHED if there would be more than 20000 hours so far": exactly 20000 there may be */
    private static void just20000() {
        with19944Hours("").run("pass(24)=0 pass(24)=0 pass(8)=0 count(6)=20000 count(5)=14");
        with19944Hours("").run("pass(24)=0 pass(24)=0 pass(7)=0 count(6)=19999 pass(1)=0 count(6)=20000");
        with19944Hours("").run("pass(8)=0 pass(24)=0 pass(24)=0 count(6)=20000 count(5)=14 pass(24)=LIMIT");
        with19944Hours("shade(6,0) set(1,36) ").run("pass(24)=24 pass(24)=24 pass(8)=8 shadeOf(0,7)=20000 shadeOf(0,6)="
                + (833 * 144 + 36 + 27 + 18 + 9));
    }

    private static void oneMoreThan20000() {
        with19944Hours("").run("pass(24)=0 pass(24)=0 pass(9)=LIMIT count(6)=19992 count(5)=6 count(11)=4 "
                + "pass(24)=LIMIT pass(8)=0 pass(1)=LIMIT pass(24)=LIMIT count(6)=20000 count(5)=14");
        with19944Hours("").run("pass(24)=0 pass(24)=0 pass(7)=0 pass(2)=LIMIT count(6)=19999 pass(1)=0 pass(1)=LIMIT");
        // other errors come first
        with19944Hours("").run("pass(24)=0 pass(24)=0 pass(8)=0 pass(25)=INVALID pass(0)=INVALID pass(-1)=INVALID "
                + "pass(LEAST)=INVALID pass(GREATEST)=INVALID pass(1)=LIMIT count(6)=20000");
    }

    /** An order that would pass more than 20000 hours is not possible for the reason 3. */
    private static void limitOfOrders() {
        with19944Hours("").run("pass(24)=0 pass(24)=0 clearText()=56 type('pass 8;') fault(0)=NONE play()=1 "
                + "count(6)=20000 fault(0)=0 fault(1)=3 fault(2)=NONE play()=IMPOSSIBLE count(6)=20000");
        with19944Hours("").run("pass(24)=0 pass(24)=0 clearText()=56 type('pass 9;') fault(0)=0 fault(1)=3 "
                + "fault(2)=NONE play()=IMPOSSIBLE count(6)=19992 count(11)=4");
        with19944Hours("").run("pass(24)=0 pass(24)=0 clearText()=56 type('pass 7;pass 1;') fault(0)=NONE "
                + "type('pass 1;') fault(0)=14 fault(1)=3 play()=IMPOSSIBLE count(6)=19992");
        // hours that are 0 are no such hours even then
        with19944Hours("").run("pass(24)=0 pass(24)=0 pass(8)=0 clearText()=56 type('pass 0;') fault(0)=0 fault(1)=2");
    }

    private static void limitTakenBack() {
        with19944Hours("").run("pass(24)=0 pass(24)=0 pass(8)=0 pass(1)=LIMIT undo()=3 count(6)=19992 pass(9)=LIMIT "
                + "pass(8)=0 count(6)=20000");
    }
}

/** Compares answers with those that are due, and ends a test. */
final class Check {
    static final int INVALID = -1000001;
    static final int IMPOSSIBLE = -1000002;
    static final int LIMIT = -1000003;
    static final int NONE = -1000004;

    private static int compared = 0;
    private static int wrong = 0;

    private Check() {
    }

    static void due(String call, long got, long want) {
        compared++;
        if (got != want) {
            wrong++;
            System.out.println(call + " answered " + got + ", due is " + want);
        }
    }

    static void holds(String what, boolean holds) {
        due(what, holds ? 1 : 0, 1);
    }

    /** Types all signs of a text, each of which is to be taken. */
    static void type(StringShades shades, String signs) {
        for (int place = 0; place < signs.length(); place++) {
            int before = shades.count(12);
            due("type of '" + signs.charAt(place) + "'", shades.type(signs.charAt(place)), before + 1);
        }
    }

    /** Types a text in the place of the one that is there. */
    static void retype(StringShades shades, String signs) {
        shades.clearText();
        type(shades, signs);
    }

    static StringShades withShades(int many) {
        StringShades shades = new StringShades();
        for (int shade = 0; shade < many; shade++) {
            due("shade", shades.shade(6, 18), shade);
        }
        return shades;
    }

    static boolean anyWrong() {
        return wrong > 0;
    }

    static void end() {
        System.out.println(compared + " answers compared, " + wrong + " not as due");
        if (wrong > 0 || compared == 0) {
            System.exit(1);
        }
    }
}

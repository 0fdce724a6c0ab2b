/** Compares answers with those that are due, and ends a test. */
final class Check {
    static final int INVALID = -1000001;
    static final int IMPOSSIBLE = -1000002;
    static final int LIMIT = -1000003;
    static final int NONE = -1000004;

    private static int compared = 0;
    private static int wrong = 0;

    private Check() {
    }

    static void due(String call, long got, long want) {
        compared++;
        if (got != want) {
            wrong++;
            System.out.println(call + " answered " + got + ", due is " + want);
        }
    }

    static void holds(String what, boolean holds) {
        compared++;
        if (!holds) {
            wrong++;
            System.out.println(what + " does not hold");
        }
    }

    /** What a word of a run stands for: an error, the ends of all numbers, or a number. */
    static int number(String word) {
        switch (word) {
            case "INVALID": return INVALID;
            case "IMPOSSIBLE": return IMPOSSIBLE;
            case "LIMIT": return LIMIT;
            case "NONE": return NONE;
            case "LEAST": return Integer.MIN_VALUE;
            case "GREATEST": return Integer.MAX_VALUE;
            default: return Integer.parseInt(word);
        }
    }

    /** Types all signs of a text, each of which is to be taken. */
    static void type(Used shades, String signs) {
        shades.typeAll(signs);
    }

    /** Types a text in the place of the one that is there. */
    static void retype(Used shades, String signs) {
        shades.clearText();
        type(shades, signs);
    }

    static Used withShades(int many) {
        Used shades = new Used();
        for (int shade = 0; shade < many; shade++) {
            due("shade", shades.shade(6, 18), shade);
        }
        return shades;
    }

    static boolean anyWrong() {
        return wrong > 0;
    }

    static void end() {
        System.out.println(compared + " answers compared, " + wrong + " not as due");
        if (wrong > 0 || compared == 0) {
            System.exit(1);
        }
    }
}

/** All that can be seen of a greenhouse without changing it, in one text to compare. */
final class Look {
    private static final int[] COUNTS = {0, 1, 2, 3, 4, 5, 6, 7, 8, 9, 10, 12, 20, 21};

    private Look() {
    }

    /** With the states of the history, but not what these are. */
    static String at(Used x) {
        return "states " + x.count(11) + " " + withoutHistory(x);
    }

    static String withoutHistory(Used x) {
        StringBuilder seen = new StringBuilder();
        seen.append("counts:");
        for (int what : COUNTS) {
            seen.append(' ').append(x.count(what));
        }
        seen.append("; ");
        for (int shade = 0; shade < x.count(0); shade++) {
            seen.append("shade ").append(shade).append(':');
            for (int what = 0; what <= 9; what++) {
                seen.append(' ').append(x.shadeOf(shade, what));
            }
            seen.append(' ').append(x.bestHeight(shade, 0)).append(' ').append(x.groupAt(shade)).append("; ");
        }
        for (int string = 0; string < x.count(1); string++) {
            seen.append("string ").append(string).append(':');
            for (int what = 0; what <= 3; what++) {
                seen.append(' ').append(x.stringOf(string, what));
            }
            seen.append(' ').append(x.leastPulls(string)).append("; ");
        }
        seen.append("least ").append(x.leastPulls(-1)).append(", really ").append(x.reallyDo());
        seen.append(", fault ").append(x.fault(0)).append(' ').append(x.fault(1)).append(' ').append(x.fault(2));
        return seen.toString();
    }

    static void same(String what, String seen, String due) {
        Check.holds(what + ": seen is " + seen + ", due is " + due + ": that they are the same", seen.equals(due));
    }
}

import java.util.Random;

/** Long runs of mixed calls, each answer against the model's; the seeds are fixed. */
public final class ModelTest {
    private static final int RUNS = 400;
    private static final int CALLS = Used.MOST_CALLS;
    private static final int TURNS = 2 * CALLS;
    private static final int[] ODD = {Integer.MIN_VALUE, Integer.MIN_VALUE + 9, -1000, -2, -1, 24,
        37, 61, 256, 1 << 30, Integer.MAX_VALUE};

    private final Random random;
    private final Used program = new Used();
    private final Model model = new Model();
    private final String name;
    private final boolean oftenLeast;
    private String toType = "";
    private boolean toPlay = false;

    private ModelTest(int seed) {
        random = new Random(seed);
        name = "seed " + seed;
        // the model tries out all pulls, which takes long
        oftenLeast = seed % 4 == 0;
    }

    public static void main(String[] arguments) {
        for (int seed = 1; seed <= RUNS && !Check.anyWrong(); seed++) {
            new ModelTest(seed).run(seed % 5 != 0);
        }
        Check.end();
    }

    private void run(boolean prepared) {
        if (prepared) {
            prepare();
        }
        // a turn makes four calls at most, and at times none
        for (int turn = 0; turn < TURNS && program.calls() + 4 <= CALLS && !Check.anyWrong(); turn++) {
            one(program.calls() + 1);
        }
    }

    /** Shades in the middle of their ways, where knots come soon. */
    private void prepare() {
        int shades = 2 + upTo(6);
        for (int shade = 0; shade < shades; shade++) {
            int hour = upTo(23);
            int want = upTo(36);
            due(0, "shade(" + hour + ", " + want + ")", program.shade(hour, want), model.shade(hour, want));
        }
        int all = (1 << shades) - 1;
        int difference = 1 + upTo(3);
        due(0, "string(" + all + ", 0)", program.string(all, 0), model.string(all, 0));
        due(0, "pull(0, 5)", program.pull(0, 5), model.pull(0, 5));
        due(0, "set(0, " + difference + ")", program.set(0, difference), model.set(0, difference));
    }

    private int upTo(int most) {
        return random.nextInt(most + 1);
    }

    /** Mostly from the range, at times beside it, at times far from it. */
    private int near(int least, int most) {
        int chance = upTo(30);
        if (chance == 0) {
            return least - 1;
        }
        if (chance == 1) {
            return most + 1;
        }
        if (chance == 2) {
            return ODD[upTo(ODD.length - 1)];
        }
        return least + upTo(most - least);
    }

    private int aShade() {
        return near(0, Math.max(0, model.count(0) - 1));
    }

    private int aString() {
        return near(0, Math.max(0, model.count(1) - 1));
    }

    /** A shade with a knot behind it, else the one given. */
    private int aKnot(int shade) {
        int many = model.count(0);
        int first = many == 0 ? 0 : upTo(many - 1);
        for (int i = 0; i < many; i++) {
            if (model.shadeOf((first + i) % many, 3) > 0) {
                return (first + i) % many;
            }
        }
        return shade;
    }

    private int steps() {
        int steps = near(-9, 9);
        return steps == 0 && upTo(9) > 0 ? 1 : steps;
    }

    private void due(int call, String what, int got, int want) {
        Check.due(name + ", call " + call + ": " + what, got, want);
    }

    private void one(int call) {
        if (!toType.isEmpty() && upTo(60) > 0) {
            int sign = toType.charAt(0);
            toType = toType.substring(1);
            toPlay = toType.isEmpty();
            due(call, "type(" + sign + ")", program.type(sign), model.type(sign));
            return;
        }
        if (toPlay) {
            toPlay = false;
            playAll(call);
            return;
        }
        if (call < 40 && upTo(2) == 0) {
            build(call);
            return;
        }
        int kind = upTo(99);
        if (kind < 45) {
            change(call, kind);
        } else if (kind < 85) {
            look(call, kind);
        } else {
            write(call, kind);
        }
    }

    private void build(int call) {
        if (upTo(2) > 0) {
            int hour = near(0, 23);
            int want = near(0, 36);
            due(call, "shade(" + hour + ", " + want + ")", program.shade(hour, want), model.shade(hour, want));
            return;
        }
        int all = (1 << model.count(0)) - 1;
        int up = upTo(12) == 0 ? near(0, all) : random.nextInt() & all;
        int down = upTo(12) == 0 ? near(0, all) : random.nextInt() & all & ~up;
        due(call, "string(" + up + ", " + down + ")", program.string(up, down), model.string(up, down));
    }

    private void change(int call, int kind) {
        int shade = aShade();
        int string = aString();
        if (kind < 18) {
            int steps = steps();
            due(call, "pull(" + string + ", " + steps + ")", program.pull(string, steps), model.pull(string, steps));
        } else if (kind < 25) {
            shade = upTo(5) > 0 ? aKnot(shade) : shade;
            due(call, "untie(" + shade + ")", program.untie(shade), model.untie(shade));
        } else if (kind < 31) {
            int height = near(0, 9);
            due(call, "tell(" + shade + ", " + height + ")", program.tell(shade, height), model.tell(shade, height));
        } else if (kind < 32) {
            due(call, "untell()", program.untell(), model.untell());
        } else if (kind < 37) {
            int hours = near(1, 24);
            due(call, "pass(" + hours + ")", program.pass(hours), model.pass(hours));
        } else if (kind < 40) {
            int what = near(0, 1);
            int value = upTo(2) == 0 ? near(0, 36) : near(1, 3);
            due(call, "set(" + what + ", " + value + ")", program.set(what, value), model.set(what, value));
        } else if (kind < 43) {
            due(call, "undo()", program.undo(), model.undo());
        } else {
            build(call);
        }
    }

    private void look(int call, int kind) {
        int shade = aShade();
        int string = aString();
        if (kind < 58) {
            int what = near(0, 9);
            due(call, "shadeOf(" + shade + ", " + what + ")", program.shadeOf(shade, what), model.shadeOf(shade, what));
        } else if (kind < 62) {
            int what = near(0, 3);
            due(call, "stringOf(" + string + ", " + what + ")",
                    program.stringOf(string, what), model.stringOf(string, what));
        } else if (kind < 65) {
            int place = near(0, 7);
            due(call, "groupAt(" + place + ")", program.groupAt(place), model.groupAt(place));
        } else if (kind < 71) {
            int steps = steps();
            int what = upTo(1) == 0 ? near(0, 3) : near(10, 17);
            due(call, "would(" + string + ", " + steps + ", " + what + ")",
                    program.would(string, steps, what), model.would(string, steps, what));
        } else if (kind < 74) {
            lookAtLeast(call, string);
        } else if (kind < 77) {
            int what = near(0, 1);
            due(call, "bestHeight(" + shade + ", " + what + ")",
                    program.bestHeight(shade, what), model.bestHeight(shade, what));
        } else {
            int what = upTo(5) == 0 ? near(20, 21) : near(0, 12);
            due(call, "count(" + what + ")", program.count(what), model.count(what));
        }
    }

    private void lookAtLeast(int call, int string) {
        if (!oftenLeast && upTo(9) > 0) {
            return;
        }
        int which = upTo(1) == 0 ? -1 : string;
        due(call, "leastPulls(" + which + ")", program.leastPulls(which), model.leastPulls(which));
        due(call, "reallyDo()", program.reallyDo(), model.reallyDo());
    }

    private void write(int call, int kind) {
        if (kind < 87) {
            due(call, "clearText()", program.clearText(), model.clearText());
        } else if (kind < 89) {
            int sign = near(32, 126);
            due(call, "type(" + sign + ")", program.type(sign), model.type(sign));
        } else if (kind < 92) {
            if (upTo(9) > 0) {
                due(call, "clearText()", program.clearText(), model.clearText());
            }
            toType = orders();
        } else if (kind < 96) {
            int what = near(0, 2);
            due(call, "fault(" + what + ")", program.fault(what), model.fault(what));
        } else {
            due(call, "play()", program.play(), model.play());
        }
    }

    private void playAll(int call) {
        for (int what = 0; what <= 2; what++) {
            due(call, "fault(" + what + ")", program.fault(what), model.fault(what));
        }
        due(call, "play()", program.play(), model.play());
    }

    private String orders() {
        StringBuilder orders = new StringBuilder();
        int many = 1 + upTo(4);
        for (int i = 0; i < many; i++) {
            orders.append(order());
        }
        int chance = upTo(5);
        int place = upTo(orders.length() - 1);
        if (chance == 0) {
            orders.setCharAt(place, "; 0aZ:/`{z~".charAt(upTo(10)));
        } else if (chance == 1) {
            orders.setLength(place);
        } else if (chance == 2) {
            orders.deleteCharAt(place);
        }
        return orders.toString();
    }

    private String order() {
        switch (upTo(8)) {
            case 0: return "untie " + digit(aKnot(0)) + ";";
            case 1: return "pass " + digit(1 + upTo(8)) + ";";
            case 2: return "tell " + digit(upTo(Math.max(0, model.count(0) - 1))) + " " + upTo(9) + ";";
            case 3:
            case 4:
            case 5: return "drop " + aCord() + " " + digit(1 + upTo(8)) + ";";
            default: return "pull " + aCord() + " " + digit(1 + upTo(8)) + ";";
        }
    }

    private int aCord() {
        return digit(upTo(Math.max(0, model.count(1) - 1)));
    }

    /** The digit, at times another one. */
    private int digit(int digit) {
        return upTo(30) == 0 ? upTo(9) : digit;
    }
}

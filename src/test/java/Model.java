import java.util.ArrayDeque;
import java.util.ArrayList;
import java.util.Deque;
import java.util.List;
import java.util.TreeSet;
import java.util.regex.Matcher;
import java.util.regex.Pattern;

/**
 * The document a second time, written from it in another way (objects, sets, patterns, trying out
 * all pulls), so that a slip in one of the two shows as a difference.
 */
final class Model {
    private static final int INVALID = -1000001;
    private static final int IMPOSSIBLE = -1000002;
    private static final int LIMIT = -1000003;
    private static final int NONE = -1000004;

    private static final class Shade {
        int height;
        int hour;
        int want;
        int knotToNext;
        long light;
        int well;
        Integer told;

        Shade copy() {
            Shade copy = new Shade();
            copy.height = height;
            copy.hour = hour;
            copy.want = want;
            copy.knotToNext = knotToNext;
            copy.light = light;
            copy.well = well;
            copy.told = told;
            return copy;
        }
    }

    private static final class Cord {
        TreeSet<Integer> up = new TreeSet<>();
        TreeSet<Integer> down = new TreeSet<>();
        int pulled;
        int jams;

        Cord copy() {
            Cord copy = new Cord();
            copy.up.addAll(up);
            copy.down.addAll(down);
            copy.pulled = pulled;
            copy.jams = jams;
            return copy;
        }
    }

    private static final class World {
        List<Shade> shades = new ArrayList<>();
        List<Cord> cords = new ArrayList<>();
        int hour = 6;
        int hours = 0;
        int came = 0;
        int difference = 4;
        int leeway = 4;

        World copy() {
            World copy = new World();
            for (Shade shade : shades) {
                copy.shades.add(shade.copy());
            }
            for (Cord cord : cords) {
                copy.cords.add(cord.copy());
            }
            copy.hour = hour;
            copy.hours = hours;
            copy.came = came;
            copy.difference = difference;
            copy.leeway = leeway;
            return copy;
        }
    }

    private World world = new World();
    private final Deque<World> past = new ArrayDeque<>();
    private String text = "";

    private static int bits(Iterable<Integer> set) {
        int bits = 0;
        for (int element : set) {
            bits += Math.pow(2, element);
        }
        return bits;
    }

    private static TreeSet<Integer> setOf(int bits) {
        TreeSet<Integer> set = new TreeSet<>();
        String binary = new StringBuilder(Integer.toBinaryString(bits)).reverse().toString();
        for (int k = 0; k < binary.length(); k++) {
            if (binary.charAt(k) == '1') {
                set.add(k);
            }
        }
        return set;
    }

    private static List<TreeSet<Integer>> groups(World w) {
        List<TreeSet<Integer>> groups = new ArrayList<>();
        for (int k = 0; k < w.shades.size(); k++) {
            if (k == 0 || w.shades.get(k - 1).knotToNext == 0) {
                groups.add(new TreeSet<>());
            }
            groups.get(groups.size() - 1).add(k);
        }
        return groups;
    }

    private static TreeSet<Integer> common(TreeSet<Integer> a, TreeSet<Integer> b) {
        TreeSet<Integer> common = new TreeSet<>(a);
        common.retainAll(b);
        return common;
    }

    private static void step(World w, Cord cord, boolean pulled) {
        TreeSet<Integer> ups = pulled ? cord.up : cord.down;
        TreeSet<Integer> downs = pulled ? cord.down : cord.up;
        int[] moved = new int[w.shades.size()];
        for (TreeSet<Integer> group : groups(w)) {
            boolean up = !common(group, ups).isEmpty();
            boolean down = !common(group, downs).isEmpty();
            if (up && down) {
                cord.jams++;
                for (int k : group) {
                    Shade shade = w.shades.get(k);
                    if (shade.knotToNext == 1 || shade.knotToNext == 2) {
                        shade.knotToNext++;
                    }
                }
            } else if (up || down) {
                int by = up ? 1 : -1;
                boolean blocked = false;
                for (int k : group) {
                    int target = w.shades.get(k).height + by;
                    blocked |= target < 0 || target > 9;
                }
                if (!blocked) {
                    for (int k : group) {
                        w.shades.get(k).height += by;
                        moved[k] = by;
                    }
                }
            }
        }
        for (int k = 0; k + 1 < w.shades.size(); k++) {
            Shade low = w.shades.get(k);
            Shade high = w.shades.get(k + 1);
            if (low.knotToNext == 0 && moved[k] * moved[k + 1] == -1
                    && Math.abs(low.height - high.height) >= w.difference) {
                low.knotToNext = 1;
                w.came++;
            }
        }
    }

    private static int pullIn(World w, int string, int steps) {
        if (string < 0 || string >= w.cords.size() || steps == 0 || steps > 9 || steps < -9) {
            return INVALID;
        }
        List<Integer> before = new ArrayList<>();
        for (Shade shade : w.shades) {
            before.add(shade.height);
        }
        Cord cord = w.cords.get(string);
        for (int i = 0; i < Math.abs(steps); i++) {
            step(w, cord, steps > 0);
        }
        cord.pulled += steps;
        TreeSet<Integer> changed = new TreeSet<>();
        for (int k = 0; k < before.size(); k++) {
            if (before.get(k) != w.shades.get(k).height) {
                changed.add(k);
            }
        }
        return bits(changed);
    }

    private static int untieIn(World w, int k) {
        if (k < 0 || k >= w.shades.size() - 1) {
            return INVALID;
        }
        Shade shade = w.shades.get(k);
        if (shade.knotToNext == 0 || Math.abs(shade.height - w.shades.get(k + 1).height) > 1) {
            return IMPOSSIBLE;
        }
        return --shade.knotToNext;
    }

    private static boolean stands(Shade shade) {
        return shade.told != null && shade.told == shade.height;
    }

    private static int standing(World w) {
        return (int) w.shades.stream().filter(Model::stands).count();
    }

    private static int told(World w) {
        return (int) w.shades.stream().filter(shade -> shade.told != null).count();
    }

    private static boolean tangled(World w, int k) {
        return w.shades.get(k).knotToNext > 0 || k > 0 && w.shades.get(k - 1).knotToNext > 0;
    }

    private static int tellIn(World w, int k, int height) {
        if (k < 0 || k >= w.shades.size() || height < 0 || height > 9) {
            return INVALID;
        }
        w.shades.get(k).told = height;
        return standing(w);
    }

    private static int light(int sunHour, int hour, int height) {
        int apart = 0;
        while ((sunHour + apart) % 24 != hour && (hour + apart) % 24 != sunHour) {
            apart++;
        }
        int strength = apart >= 4 ? 0 : 12 - 3 * apart;
        return (int) Math.floor(strength * (9 - height) / 3.0);
    }

    private static boolean well(World w, Shade shade, int light) {
        return light >= shade.want - w.leeway && light <= shade.want + w.leeway;
    }

    private static int passIn(World w, int hours) {
        if (hours < 1 || hours > 24) {
            return INVALID;
        }
        if (w.hours + hours > 20000) {
            return LIMIT;
        }
        int often = 0;
        for (int i = 0; i < hours; i++) {
            for (Shade shade : w.shades) {
                int light = light(shade.hour, w.hour, shade.height);
                shade.light += light;
                if (well(w, shade, light)) {
                    shade.well++;
                    often++;
                }
            }
            w.hour = (w.hour + 1) % 24;
            w.hours++;
        }
        return often;
    }

    private int change(World after, int answer) {
        if (answer >= 0) {
            past.addLast(world);
            if (past.size() > 4) {
                past.removeFirst();
            }
            world = after;
        }
        return answer;
    }

    int shade(int hour, int want) {
        if (hour < 0 || hour > 23 || want < 0 || want > 36) {
            return INVALID;
        }
        if (world.shades.size() == 8) {
            return LIMIT;
        }
        World after = world.copy();
        Shade shade = new Shade();
        shade.hour = hour;
        shade.want = want;
        after.shades.add(shade);
        return change(after, after.shades.size() - 1);
    }

    int string(int up, int down) {
        int bound = (int) Math.pow(2, world.shades.size());
        if (up < 0 || up >= bound || down < 0 || down >= bound || up == 0 && down == 0) {
            return INVALID;
        }
        Cord cord = new Cord();
        cord.up = setOf(up);
        cord.down = setOf(down);
        if (!common(cord.up, cord.down).isEmpty()) {
            return INVALID;
        }
        if (world.cords.size() == 4) {
            return LIMIT;
        }
        World after = world.copy();
        after.cords.add(cord);
        return change(after, after.cords.size() - 1);
    }

    int pull(int string, int steps) {
        World after = world.copy();
        return change(after, pullIn(after, string, steps));
    }

    int untie(int shade) {
        World after = world.copy();
        return change(after, untieIn(after, shade));
    }

    int tell(int shade, int height) {
        World after = world.copy();
        return change(after, tellIn(after, shade, height));
    }

    int untell() {
        World after = world.copy();
        after.shades.forEach(shade -> shade.told = null);
        return change(after, told(world));
    }

    int pass(int hours) {
        World after = world.copy();
        return change(after, passIn(after, hours));
    }

    int set(int what, int value) {
        World after = world.copy();
        if (what == 0 && value >= 1 && value <= 9) {
            after.difference = value;
            return change(after, world.difference);
        }
        if (what == 1 && value >= 0 && value <= 36) {
            after.leeway = value;
            return change(after, world.leeway);
        }
        return INVALID;
    }

    int shadeOf(int k, int what) {
        if (k < 0 || k >= world.shades.size() || what < 0 || what > 9) {
            return INVALID;
        }
        Shade shade = world.shades.get(k);
        if (what >= 8 && shade.told == null) {
            return NONE;
        }
        int group = 0;
        for (TreeSet<Integer> set : groups(world)) {
            if (set.contains(k)) {
                group = bits(set);
            }
        }
        int mark = stands(shade) ? 1 : tangled(world, k) ? 2 : 0;
        long[] answers = {shade.height, shade.hour, shade.want, shade.knotToNext, group,
            light(shade.hour, world.hour, shade.height), shade.light, shade.well,
            shade.told == null ? NONE : shade.told, mark};
        return (int) answers[what];
    }

    int stringOf(int string, int what) {
        if (string < 0 || string >= world.cords.size() || what < 0 || what > 3) {
            return INVALID;
        }
        Cord cord = world.cords.get(string);
        return new int[] {bits(cord.up), bits(cord.down), 100000 + cord.pulled, cord.jams}[what];
    }

    int groupAt(int place) {
        if (place < 0) {
            return INVALID;
        }
        List<TreeSet<Integer>> groups = groups(world);
        return place < groups.size() ? bits(groups.get(place)) : NONE;
    }

    private static int knots(World w) {
        return (int) w.shades.stream().filter(shade -> shade.knotToNext > 0).count();
    }

    int would(int string, int steps, int what) {
        World after = world.copy();
        int changed = pullIn(after, string, steps);
        if (changed < 0) {
            return changed;
        }
        if (what == 0) {
            return changed;
        }
        if (what == 1) {
            return knots(after);
        }
        if (what == 2) {
            return after.cords.get(string).jams - world.cords.get(string).jams;
        }
        if (what == 3) {
            return standing(after);
        }
        for (int k = 0; k < after.shades.size(); k++) {
            if (what == 10 + k) {
                return after.shades.get(k).height;
            }
        }
        return INVALID;
    }

    /** Tries out all pulls; the answer's last number is the sum. */
    private int[] least() {
        int cords = world.cords.size();
        int all = (int) Math.pow(19, cords);
        int[] best = null;
        for (int number = 0; number < all; number++) {
            int[] steps = new int[cords + 1];
            int rest = number;
            for (int c = cords - 1; c >= 0; c--) {
                steps[c] = rest % 19 - 9;
                rest /= 19;
                steps[cords] += Math.abs(steps[c]);
            }
            if ((best == null || steps[cords] < best[cords]) && leadsThere(steps)) {
                best = steps;
            }
        }
        return best;
    }

    private boolean leadsThere(int[] steps) {
        for (int k = 0; k < world.shades.size(); k++) {
            Shade shade = world.shades.get(k);
            if (shade.told != null) {
                int height = shade.height;
                for (int c = 0; c < world.cords.size(); c++) {
                    if (world.cords.get(c).up.contains(k)) {
                        height += steps[c];
                    }
                    if (world.cords.get(c).down.contains(k)) {
                        height -= steps[c];
                    }
                }
                if (height != shade.told) {
                    return false;
                }
            }
        }
        return true;
    }

    int leastPulls(int string) {
        if (string < -1 || string >= world.cords.size()) {
            return INVALID;
        }
        int[] least = least();
        if (least == null) {
            return NONE;
        }
        return string == -1 ? least[least.length - 1] : least[string] + 100;
    }

    int reallyDo() {
        int[] least = least();
        if (least == null) {
            return NONE;
        }
        World after = world.copy();
        for (int c = 0; c < after.cords.size(); c++) {
            for (int i = 0; i < Math.abs(least[c]); i++) {
                step(after, after.cords.get(c), least[c] > 0);
            }
        }
        for (Shade shade : after.shades) {
            if (shade.told != null && !stands(shade)) {
                return 0;
            }
        }
        return 1;
    }

    int bestHeight(int k, int what) {
        if (k < 0 || k >= world.shades.size() || what != 0 && what != 1) {
            return INVALID;
        }
        Shade shade = world.shades.get(k);
        int[] hoursAt = new int[10];
        int best = 9;
        for (int height = 9; height >= 0; height--) {
            for (int hour = 0; hour < 24; hour++) {
                if (well(world, shade, light(shade.hour, hour, height))) {
                    hoursAt[height]++;
                }
            }
            if (hoursAt[height] >= hoursAt[best]) {
                best = height;
            }
        }
        return what == 0 ? best : hoursAt[best];
    }

    int count(int what) {
        switch (what) {
            case 0: return world.shades.size();
            case 1: return world.cords.size();
            case 2: return knots(world);
            case 3: return world.shades.stream().mapToInt(shade -> shade.knotToNext).sum();
            case 4: return groups(world).size();
            case 5: return world.hour;
            case 6: return world.hours;
            case 7: return told(world);
            case 8: return standing(world);
            case 9:
                int astray = 0;
                for (int k = 0; k < world.shades.size(); k++) {
                    Shade shade = world.shades.get(k);
                    if (shade.told != null && !stands(shade) && tangled(world, k)) {
                        astray++;
                    }
                }
                return astray;
            case 10: return world.came;
            case 11: return past.size();
            case 12: return text.length();
            case 20: return world.difference;
            case 21: return world.leeway;
            default: return INVALID;
        }
    }

    int undo() {
        if (past.isEmpty()) {
            return IMPOSSIBLE;
        }
        world = past.removeLast();
        return past.size();
    }

    int type(int character) {
        if (character < 32 || character > 126) {
            return INVALID;
        }
        if (text.length() == 60) {
            return LIMIT;
        }
        text += (char) character;
        return text.length();
    }

    int clearText() {
        int length = text.length();
        text = "";
        return length;
    }

    private static final Pattern ORDER = Pattern.compile(
            "(?:(pull|drop|tell) ([0-9]) ([0-9])|(untie|pass) ([0-9]));");
    private static final Pattern WORDS = Pattern.compile("pull|drop|untie|tell|pass");

    /** Position, reason, cause and orders done; the reason is 0 if there is no fault. */
    private int[] read(World w) {
        int position = 0;
        int orders = 0;
        while (position < text.length()) {
            String rest = text.substring(position);
            Matcher matcher = ORDER.matcher(rest);
            if (!matcher.lookingAt()) {
                return new int[] {position, 1, causeOf(rest), orders};
            }
            boolean two = matcher.group(1) != null;
            String word = two ? matcher.group(1) : matcher.group(4);
            int first = Integer.parseInt(two ? matcher.group(2) : matcher.group(5));
            int second = two ? Integer.parseInt(matcher.group(3)) : 0;
            int answer;
            switch (word) {
                case "pull": answer = pullIn(w, first, second); break;
                case "drop": answer = pullIn(w, first, -second); break;
                case "tell": answer = tellIn(w, first, second); break;
                case "untie": answer = untieIn(w, first); break;
                default: answer = passIn(w, first);
            }
            if (answer < 0) {
                return new int[] {position, answer == INVALID ? 2 : 3, NONE, orders};
            }
            orders++;
            position += matcher.end();
        }
        return new int[] {0, 0, 0, orders};
    }

    private static int causeOf(String rest) {
        int letters = 0;
        while (letters < rest.length() && Character.toString(rest.charAt(letters)).matches("[a-z]")) {
            letters++;
        }
        String word = rest.substring(0, letters);
        if (!WORDS.matcher(word).matches()) {
            return 0;
        }
        boolean two = word.equals("pull") || word.equals("drop") || word.equals("tell");
        String form = word + (two ? " # #;" : " #;");
        for (int k = 0; k < form.length(); k++) {
            if (k >= rest.length()) {
                return rest.length();
            }
            boolean fits = form.charAt(k) == '#'
                    ? rest.charAt(k) >= '0' && rest.charAt(k) <= '9'
                    : rest.charAt(k) == form.charAt(k);
            if (!fits) {
                return k;
            }
        }
        throw new IllegalStateException("an order of the right form has no cause: " + rest);
    }

    int fault(int what) {
        if (what < 0 || what > 2) {
            return INVALID;
        }
        int[] read = read(world.copy());
        if (read[1] == 0 || what == 2 && read[1] != 1) {
            return NONE;
        }
        return read[what];
    }

    int play() {
        World after = world.copy();
        int[] read = read(after);
        return read[1] != 0 ? IMPOSSIBLE : change(after, read[3]);
    }
}

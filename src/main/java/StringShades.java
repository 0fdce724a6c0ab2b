/**
 * A greenhouse with shades on strings. The document ../shared/DOC.md says what each call answers;
 * every change is tried on a second house first, so that a call with an error changes nothing.
 */
public final class StringShades {
    public static final int INVALID_ARGUMENT = -1000001;
    public static final int NOT_POSSIBLE = -1000002;
    public static final int LIMIT_REACHED = -1000003;
    public static final int NOT_FOUND = -1000004;

    private static final int MOST_SHADES = 8;
    private static final int MOST_STRINGS = 4;
    private static final int CLOSED = 9;
    private static final int MOST_STEPS = 9;
    private static final int DEEPEST = 3;
    private static final int HOURS_OF_DAY = 24;
    private static final int MOST_LIGHT = 36;
    private static final int MOST_HOURS = 20000;
    private static final int MOST_STATES = 4;
    private static final int MOST_CHARACTERS = 60;
    private static final int NOT_TOLD = -1;
    private static final int ALL_STRINGS = -1;

    private final House now;
    private final House trial;
    private final History history;
    private final Text text;
    private final Reading reading;
    private final Pulls pulls;

    public StringShades() {
        now = new House();
        trial = new House();
        history = new History();
        text = new Text();
        reading = new Reading();
        pulls = new Pulls();
    }

    // ---- shades, strings

    public int shade(int hour, int want) {
        return settle(Work.addShade(freshTrial(), hour, want));
    }

    public int string(int up, int down) {
        return settle(Work.addString(freshTrial(), up, down));
    }

    public int pull(int string, int steps) {
        int done = Work.pullBy(freshTrial(), string, steps);
        return settle(isError(done) ? done : trial.heightsUnlike(now));
    }

    public int untie(int shade) {
        return settle(Work.untieOnce(freshTrial(), shade));
    }

    public int tell(int shade, int height) {
        return settle(Work.tellHeight(freshTrial(), shade, height));
    }

    public int untell() {
        return settle(Work.forgetTold(freshTrial()));
    }

    public int pass(int hours) {
        return settle(Work.letHoursGo(freshTrial(), hours));
    }

    public int set(int what, int value) {
        return settle(Work.changeSetting(freshTrial(), what, value));
    }

    // ---- what there is

    public int shadeOf(int shade, int what) {
        if (!now.hasShade(shade)) {
            return INVALID_ARGUMENT;
        }
        switch (what) {
            case 0: return now.ofShade(shade, House.HEIGHT);
            case 1: return now.ofShade(shade, House.SUN_HOUR);
            case 2: return now.ofShade(shade, House.WANT);
            case 3: return now.ofShade(shade, House.KNOT);
            case 4: return now.groupOf(shade);
            case 5: return Sun.lightBehind(now, shade);
            case 6: return now.ofShade(shade, House.LIGHT);
            case 7: return now.ofShade(shade, House.WELL);
            case 8: return now.isTold(shade) ? now.ofShade(shade, House.TOLD) : NOT_FOUND;
            case 9: return now.isTold(shade) ? placeMark(shade) : NOT_FOUND;
            default: return INVALID_ARGUMENT;
        }
    }

    public int stringOf(int string, int what) {
        if (!now.hasString(string)) {
            return INVALID_ARGUMENT;
        }
        switch (what) {
            case 0: return now.ofString(string, House.UP);
            case 1: return now.ofString(string, House.DOWN);
            // the document adds this so that more letting go than pulling is no error code
            case 2: return now.ofString(string, House.PULLED) + 100000;
            case 3: return now.ofString(string, House.JAMS);
            default: return INVALID_ARGUMENT;
        }
    }

    public int groupAt(int place) {
        if (place < 0) {
            return INVALID_ARGUMENT;
        }
        int groups = 0;
        for (int shade = 0; shade < now.shades(); shade++) {
            if (now.isLowestOfGroup(shade)) {
                if (groups == place) {
                    return now.groupOf(shade);
                }
                groups++;
            }
        }
        return NOT_FOUND;
    }

    // ---- what would be

    public int would(int string, int steps, int what) {
        House after = freshTrial();
        int done = Work.pullBy(after, string, steps);
        if (isError(done)) {
            return done;
        }
        switch (what) {
            case 0: return after.heightsUnlike(now);
            case 1: return after.knots();
            case 2: return after.ofString(string, House.JAMS) - now.ofString(string, House.JAMS);
            case 3: return after.standing();
            default: return heightBehindTen(after, what);
        }
    }

    public int leastPulls(int string) {
        if (string != ALL_STRINGS && !now.hasString(string)) {
            return INVALID_ARGUMENT;
        }
        int sum = pulls.find(now);
        if (isError(sum) || string == ALL_STRINGS) {
            return sum;
        }
        return pulls.stepsOf(string) + 100;
    }

    public int reallyDo() {
        int sum = pulls.find(now);
        if (isError(sum)) {
            return sum;
        }
        House after = freshTrial();
        for (int string = 0; string < after.strings(); string++) {
            int steps = pulls.stepsOf(string);
            if (steps != 0) {
                Work.pullBy(after, string, steps);
            }
        }
        return after.standing() == after.told() ? 1 : 0;
    }

    public int bestHeight(int shade, int what) {
        if (!now.hasShade(shade) || what < 0 || what > 1) {
            return INVALID_ARGUMENT;
        }
        int best = 0;
        int most = 0;
        for (int height = 0; height <= CLOSED; height++) {
            int hours = Sun.hoursWellAt(now, shade, height);
            if (hours > most) {
                most = hours;
                best = height;
            }
        }
        return what == 0 ? best : most;
    }

    public int count(int what) {
        switch (what) {
            case 0: return now.shades();
            case 1: return now.strings();
            case 2: return now.knots();
            case 3: return now.depths();
            case 4: return now.groups();
            case 5: return now.number(House.HOUR);
            case 6: return now.number(House.HOURS);
            case 7: return now.told();
            case 8: return now.standing();
            case 9: return now.astrayAndTangled();
            case 10: return now.number(House.KNOTS_CAME);
            case 11: return history.states();
            case 12: return text.length();
            case 20: return now.number(House.DIFFERENCE);
            case 21: return now.number(House.LEEWAY);
            default: return INVALID_ARGUMENT;
        }
    }

    public int undo() {
        if (history.states() == 0) {
            return NOT_POSSIBLE;
        }
        history.takeLatest(now);
        return history.states();
    }

    // ---- texts

    public int type(int character) {
        if (character < 32 || character > 126) {
            return INVALID_ARGUMENT;
        }
        if (text.length() >= MOST_CHARACTERS) {
            return LIMIT_REACHED;
        }
        text.append((char) character);
        return text.length();
    }

    public int clearText() {
        int length = text.length();
        text.empty();
        return length;
    }

    public int fault(int what) {
        if (what < 0 || what > 2) {
            return INVALID_ARGUMENT;
        }
        reading.follow(text, freshTrial());
        if (reading.reason() == Reading.NO_FAULT) {
            return NOT_FOUND;
        }
        switch (what) {
            case 0: return reading.position();
            case 1: return reading.reason();
            default: return reading.reason() == Reading.BAD_FORM ? reading.cause() : NOT_FOUND;
        }
    }

    public int play() {
        reading.follow(text, freshTrial());
        return settle(reading.reason() == Reading.NO_FAULT ? reading.orders() : NOT_POSSIBLE);
    }

    // ---- what the calls share

    private static boolean isError(int answer) {
        return answer < 0;
    }

    private House freshTrial() {
        trial.copyFrom(now);
        return trial;
    }

    private int settle(int answer) {
        if (!isError(answer)) {
            history.keep(now);
            now.copyFrom(trial);
        }
        return answer;
    }

    private int placeMark(int shade) {
        if (now.isStanding(shade)) {
            return 1;
        }
        return now.isTangled(shade) ? 2 : 0;
    }

    private static int heightBehindTen(House house, int what) {
        // looked at before 10 is taken away, so that no number can wrap around
        if (what < 10 || !house.hasShade(what - 10)) {
            return INVALID_ARGUMENT;
        }
        return house.ofShade(what - 10, House.HEIGHT);
    }

    private static int bitOf(int shade) {
        return 1 << shade;
    }

    /** All that a change records, in one row of numbers, so that copying it can forget nothing. */
    private static final class House {
        static final int SHADES = 0;
        static final int STRINGS = 1;
        static final int HOUR = 2;
        static final int HOURS = 3;
        static final int KNOTS_CAME = 4;
        static final int DIFFERENCE = 5;
        static final int LEEWAY = 6;
        private static final int NUMBERS = 7;

        static final int HEIGHT = 0;
        static final int SUN_HOUR = 1;
        static final int WANT = 2;
        static final int KNOT = 3;
        static final int LIGHT = 4;
        static final int WELL = 5;
        static final int TOLD = 6;
        private static final int SHADE_NUMBERS = 7;

        static final int UP = 0;
        static final int DOWN = 1;
        static final int PULLED = 2;
        static final int JAMS = 3;
        private static final int STRING_NUMBERS = 4;

        private static final int FIRST_SHADE = NUMBERS;
        private static final int FIRST_STRING = FIRST_SHADE + MOST_SHADES * SHADE_NUMBERS;
        static final int SIZE = FIRST_STRING + MOST_STRINGS * STRING_NUMBERS;

        private final int[] cells = new int[SIZE];

        House() {
            cells[HOUR] = 6;
            cells[DIFFERENCE] = 4;
            cells[LEEWAY] = 4;
        }

        void copyFrom(House other) {
            System.arraycopy(other.cells, 0, cells, 0, SIZE);
        }

        void copyTo(int[] row, int start) {
            if (start >= 0 && start <= row.length - SIZE) {
                System.arraycopy(cells, 0, row, start, SIZE);
            }
        }

        void copyBack(int[] row, int start) {
            if (start >= 0 && start <= row.length - SIZE) {
                System.arraycopy(row, start, cells, 0, SIZE);
            }
        }

        int number(int what) {
            return what >= 0 && what < NUMBERS ? cells[what] : 0;
        }

        void putNumber(int what, int value) {
            if (what >= 0 && what < NUMBERS) {
                cells[what] = value;
            }
        }

        // a shade that cannot be answers 0, so that the ends of the row need no case of their own
        int ofShade(int shade, int what) {
            if (shade < 0 || shade >= MOST_SHADES || what < 0 || what >= SHADE_NUMBERS) {
                return 0;
            }
            return cells[FIRST_SHADE + shade * SHADE_NUMBERS + what];
        }

        void putShade(int shade, int what, int value) {
            if (shade >= 0 && shade < MOST_SHADES && what >= 0 && what < SHADE_NUMBERS) {
                cells[FIRST_SHADE + shade * SHADE_NUMBERS + what] = value;
            }
        }

        int ofString(int string, int what) {
            if (string < 0 || string >= MOST_STRINGS || what < 0 || what >= STRING_NUMBERS) {
                return 0;
            }
            return cells[FIRST_STRING + string * STRING_NUMBERS + what];
        }

        void putString(int string, int what, int value) {
            if (string >= 0 && string < MOST_STRINGS && what >= 0 && what < STRING_NUMBERS) {
                cells[FIRST_STRING + string * STRING_NUMBERS + what] = value;
            }
        }

        int shades() {
            return cells[SHADES];
        }

        int strings() {
            return cells[STRINGS];
        }

        boolean hasShade(int shade) {
            return shade >= 0 && shade < shades();
        }

        boolean hasString(int string) {
            return string >= 0 && string < strings();
        }

        boolean isTold(int shade) {
            return hasShade(shade) && ofShade(shade, TOLD) != NOT_TOLD;
        }

        // NOT_TOLD is no height, so that a shade that is told nothing stands nowhere
        boolean isStanding(int shade) {
            return ofShade(shade, HEIGHT) == ofShade(shade, TOLD);
        }

        boolean isTangled(int shade) {
            return ofShade(shade - 1, KNOT) > 0 || ofShade(shade, KNOT) > 0;
        }

        boolean isLowestOfGroup(int shade) {
            return ofShade(shade - 1, KNOT) == 0;
        }

        int groupOf(int shade) {
            int group = bitOf(shade);
            for (int lower = shade - 1; lower >= 0 && ofShade(lower, KNOT) > 0; lower--) {
                group |= bitOf(lower);
            }
            for (int upper = shade + 1; upper < shades() && ofShade(upper - 1, KNOT) > 0; upper++) {
                group |= bitOf(upper);
            }
            return group;
        }

        int heightsUnlike(House other) {
            int unlike = 0;
            for (int shade = 0; shade < shades(); shade++) {
                if (ofShade(shade, HEIGHT) != other.ofShade(shade, HEIGHT)) {
                    unlike |= bitOf(shade);
                }
            }
            return unlike;
        }

        int knots() {
            int knots = 0;
            for (int shade = 0; shade < shades(); shade++) {
                if (ofShade(shade, KNOT) > 0) {
                    knots++;
                }
            }
            return knots;
        }

        int depths() {
            int sum = 0;
            for (int shade = 0; shade < shades(); shade++) {
                sum += ofShade(shade, KNOT);
            }
            return sum;
        }

        int groups() {
            // each knot joins two groups, as knots are between neighbors only
            return shades() - knots();
        }

        int told() {
            int told = 0;
            for (int shade = 0; shade < shades(); shade++) {
                if (isTold(shade)) {
                    told++;
                }
            }
            return told;
        }

        int standing() {
            int standing = 0;
            for (int shade = 0; shade < shades(); shade++) {
                if (isStanding(shade)) {
                    standing++;
                }
            }
            return standing;
        }

        int astrayAndTangled() {
            int astray = 0;
            for (int shade = 0; shade < shades(); shade++) {
                if (isTold(shade) && !isStanding(shade) && isTangled(shade)) {
                    astray++;
                }
            }
            return astray;
        }
    }

    /** The states before the latest changes, the oldest one first. */
    private static final class History {
        private final int[] cells = new int[MOST_STATES * House.SIZE];
        private int states = 0;

        int states() {
            return states;
        }

        void keep(House house) {
            if (states >= MOST_STATES) {
                System.arraycopy(cells, House.SIZE, cells, 0, (MOST_STATES - 1) * House.SIZE);
                states = MOST_STATES - 1;
            }
            house.copyTo(cells, states * House.SIZE);
            states++;
        }

        void takeLatest(House house) {
            if (states > 0) {
                states--;
                house.copyBack(cells, states * House.SIZE);
            }
        }
    }

    /** The light, and the plants behind the shades. */
    private static final class Sun {
        private static int light(int sunHour, int hour, int height) {
            int apart = Math.abs(sunHour - hour);
            int shorter = Math.min(apart, HOURS_OF_DAY - apart);
            int strength = Math.max(0, 12 - 3 * shorter);
            return strength * (CLOSED - height) / 3;
        }

        static int lightBehind(House house, int shade) {
            return light(house.ofShade(shade, House.SUN_HOUR), house.number(House.HOUR),
                    house.ofShade(shade, House.HEIGHT));
        }

        static boolean isWell(House house, int shade, int light) {
            return Math.abs(light - house.ofShade(shade, House.WANT)) <= house.number(House.LEEWAY);
        }

        static int hoursWellAt(House house, int shade, int height) {
            int hours = 0;
            for (int hour = 0; hour < HOURS_OF_DAY; hour++) {
                if (isWell(house, shade, light(house.ofShade(shade, House.SUN_HOUR), hour, height))) {
                    hours++;
                }
            }
            return hours;
        }
    }

    /** The changes; each answers as its call does, an error before anything of the house changes. */
    private static final class Work {
        static int addShade(House house, int hour, int want) {
            if (hour < 0 || hour >= HOURS_OF_DAY || want < 0 || want > MOST_LIGHT) {
                return INVALID_ARGUMENT;
            }
            int shade = house.shades();
            if (shade >= MOST_SHADES) {
                return LIMIT_REACHED;
            }
            house.putShade(shade, House.SUN_HOUR, hour);
            house.putShade(shade, House.WANT, want);
            house.putShade(shade, House.TOLD, NOT_TOLD);
            house.putNumber(House.SHADES, shade + 1);
            return shade;
        }

        static int addString(House house, int up, int down) {
            int any = up | down;
            int all = bitOf(house.shades()) - 1;
            if ((any & ~all) != 0 || (up & down) != 0 || any == 0) {
                return INVALID_ARGUMENT;
            }
            int string = house.strings();
            if (string >= MOST_STRINGS) {
                return LIMIT_REACHED;
            }
            house.putString(string, House.UP, up);
            house.putString(string, House.DOWN, down);
            house.putNumber(House.STRINGS, string + 1);
            return string;
        }

        /** Answers 0 when done: which shades have moved is seen against the house before. */
        static int pullBy(House house, int string, int steps) {
            if (!house.hasString(string) || steps == 0 || steps < -MOST_STEPS || steps > MOST_STEPS) {
                return INVALID_ARGUMENT;
            }
            int up = house.ofString(string, steps > 0 ? House.UP : House.DOWN);
            int down = house.ofString(string, steps > 0 ? House.DOWN : House.UP);
            int jams = 0;
            int far = Math.abs(steps);
            for (int step = 0; step < far; step++) {
                jams += stepOf(house, up, down);
            }
            house.putString(string, House.PULLED, house.ofString(string, House.PULLED) + steps);
            house.putString(string, House.JAMS, house.ofString(string, House.JAMS) + jams);
            return 0;
        }

        /** Answers how many groups jammed. */
        private static int stepOf(House house, int up, int down) {
            int risen = 0;
            int sunk = 0;
            int jams = 0;
            for (int low = 0; low < house.shades(); low++) {
                if (house.isLowestOfGroup(low)) {
                    int group = house.groupOf(low);
                    boolean wantsUp = (group & up) != 0;
                    boolean wantsDown = (group & down) != 0;
                    if (wantsUp && wantsDown) {
                        deepen(house, group);
                        jams++;
                    } else if (wantsUp && moveGroup(house, group, 1)) {
                        risen |= group;
                    } else if (wantsDown && moveGroup(house, group, -1)) {
                        sunk |= group;
                    }
                }
            }
            tie(house, risen, sunk);
            return jams;
        }

        private static void deepen(House house, int group) {
            for (int shade = 0; shade < house.shades(); shade++) {
                int depth = house.ofShade(shade, House.KNOT);
                if ((group & bitOf(shade)) != 0 && depth > 0) {
                    house.putShade(shade, House.KNOT, Math.min(depth + 1, DEEPEST));
                }
            }
        }

        private static boolean moveGroup(House house, int group, int by) {
            int end = by > 0 ? CLOSED : 0;
            for (int shade = 0; shade < house.shades(); shade++) {
                if ((group & bitOf(shade)) != 0 && house.ofShade(shade, House.HEIGHT) == end) {
                    return false;
                }
            }
            for (int shade = 0; shade < house.shades(); shade++) {
                if ((group & bitOf(shade)) != 0) {
                    house.putShade(shade, House.HEIGHT, house.ofShade(shade, House.HEIGHT) + by);
                }
            }
            return true;
        }

        private static void tie(House house, int risen, int sunk) {
            for (int low = 0; low < house.shades() - 1; low++) {
                boolean apart = (risen & bitOf(low)) != 0 && (sunk & bitOf(low + 1)) != 0
                        || (sunk & bitOf(low)) != 0 && (risen & bitOf(low + 1)) != 0;
                if (apart && house.ofShade(low, House.KNOT) == 0
                        && difference(house, low) >= house.number(House.DIFFERENCE)) {
                    house.putShade(low, House.KNOT, 1);
                    house.putNumber(House.KNOTS_CAME, house.number(House.KNOTS_CAME) + 1);
                }
            }
        }

        private static int difference(House house, int low) {
            return Math.abs(house.ofShade(low, House.HEIGHT) - house.ofShade(low + 1, House.HEIGHT));
        }

        static int untieOnce(House house, int shade) {
            // the last shade has none behind it
            if (shade < 0 || shade >= house.shades() - 1) {
                return INVALID_ARGUMENT;
            }
            int depth = house.ofShade(shade, House.KNOT);
            if (depth == 0 || difference(house, shade) > 1) {
                return NOT_POSSIBLE;
            }
            house.putShade(shade, House.KNOT, depth - 1);
            return depth - 1;
        }

        static int tellHeight(House house, int shade, int height) {
            if (!house.hasShade(shade) || height < 0 || height > CLOSED) {
                return INVALID_ARGUMENT;
            }
            house.putShade(shade, House.TOLD, height);
            return house.standing();
        }

        static int forgetTold(House house) {
            int told = house.told();
            for (int shade = 0; shade < house.shades(); shade++) {
                house.putShade(shade, House.TOLD, NOT_TOLD);
            }
            return told;
        }

        static int letHoursGo(House house, int hours) {
            if (hours < 1 || hours > HOURS_OF_DAY) {
                return INVALID_ARGUMENT;
            }
            if (house.number(House.HOURS) + hours > MOST_HOURS) {
                return LIMIT_REACHED;
            }
            int well = 0;
            for (int hour = 0; hour < hours; hour++) {
                well += letHourGo(house);
            }
            return well;
        }

        /** Answers behind how many shades the plants were well. */
        private static int letHourGo(House house) {
            int well = 0;
            for (int shade = 0; shade < house.shades(); shade++) {
                int light = Sun.lightBehind(house, shade);
                house.putShade(shade, House.LIGHT, house.ofShade(shade, House.LIGHT) + light);
                if (Sun.isWell(house, shade, light)) {
                    house.putShade(shade, House.WELL, house.ofShade(shade, House.WELL) + 1);
                    well++;
                }
            }
            int next = house.number(House.HOUR) + 1;
            house.putNumber(House.HOUR, next < HOURS_OF_DAY ? next : 0);
            house.putNumber(House.HOURS, house.number(House.HOURS) + 1);
            return well;
        }

        static int changeSetting(House house, int what, int value) {
            switch (what) {
                case 0: return replace(house, House.DIFFERENCE, value, 1, 9);
                case 1: return replace(house, House.LEEWAY, value, 0, MOST_LIGHT);
                default: return INVALID_ARGUMENT;
            }
        }

        private static int replace(House house, int setting, int value, int least, int most) {
            if (value < least || value > most) {
                return INVALID_ARGUMENT;
            }
            int before = house.number(setting);
            house.putNumber(setting, value);
            return before;
        }
    }

    /**
     * The search for the least pulls. Each told shade is an equation: the steps of all strings, each
     * times its effect on the shade, make up what the shade needs. The rows are made once.
     */
    private static final class Pulls {
        private static final int TOO_MUCH = MOST_STRINGS * MOST_STEPS + 1;

        /** What the equations still need behind the steps that are being tried. */
        private final int[] needs = new int[MOST_SHADES];
        private final int[] effects = new int[MOST_STRINGS * MOST_SHADES];
        /** By how much the strings behind a string can change an equation. */
        private final int[] reaches = new int[MOST_STRINGS * MOST_SHADES];
        private final int[] tried = new int[MOST_STRINGS];
        private final int[] best = new int[MOST_STRINGS];
        private int equations = 0;
        private int strings = 0;
        private int leastSum = TOO_MUCH;

        /** Answers the least sum, or NOT_FOUND. */
        int find(House house) {
            leastSum = TOO_MUCH;
            writeEquations(house);
            search(this, 0, 0);
            return leastSum < TOO_MUCH ? leastSum : NOT_FOUND;
        }

        int stepsOf(int string) {
            return at(best, string);
        }

        private static int at(int[] row, int place) {
            return place >= 0 && place < row.length ? row[place] : 0;
        }

        private static void put(int[] row, int place, int value) {
            if (place >= 0 && place < row.length) {
                row[place] = value;
            }
        }

        private static int cell(int string, int equation) {
            return string * MOST_SHADES + equation;
        }

        private void writeEquations(House house) {
            equations = 0;
            strings = house.strings();
            for (int shade = 0; shade < house.shades(); shade++) {
                if (house.isTold(shade)) {
                    int need = house.ofShade(shade, House.TOLD) - house.ofShade(shade, House.HEIGHT);
                    put(needs, equations, need);
                    writeEffects(house, shade);
                    equations++;
                }
            }
        }

        private void writeEffects(House house, int shade) {
            int reach = 0;
            // from the last string on, as the reach adds up behind each
            for (int string = strings - 1; string >= 0; string--) {
                int up = house.ofString(string, House.UP) >> shade & 1;
                int down = house.ofString(string, House.DOWN) >> shade & 1;
                put(effects, cell(string, equations), up - down);
                put(reaches, cell(string, equations), reach);
                reach += MOST_STEPS * (up + down);
            }
        }

        // from the lowest steps on, so that of several with the least sum the first one found is due
        private static void search(Pulls pulls, int string, int sum) {
            int greatest = pulls.greatestNeed();
            // a step brings an equation nearer by 1 at most
            if (sum + greatest >= pulls.leastSum) {
                return;
            }
            if (string >= pulls.strings || string >= MOST_STRINGS) {
                if (greatest == 0) {
                    pulls.keepBest(sum);
                }
                return;
            }
            int highest = pulls.mostSteps(string, 1);
            int lowest = -pulls.mostSteps(string, -1);
            for (int steps = lowest; steps <= highest; steps++) {
                put(pulls.tried, string, steps);
                pulls.approach(string, steps);
                search(pulls, string + 1, sum + Math.abs(steps));
                pulls.approach(string, -steps);
            }
        }

        private int greatestNeed() {
            int greatest = 0;
            for (int equation = 0; equation < equations; equation++) {
                greatest = Math.max(greatest, Math.abs(at(needs, equation)));
            }
            return greatest;
        }

        private void keepBest(int sum) {
            leastSum = sum;
            System.arraycopy(tried, 0, best, 0, MOST_STRINGS);
        }

        private void approach(int string, int steps) {
            for (int equation = 0; equation < equations; equation++) {
                int effect = at(effects, cell(string, equation));
                put(needs, equation, at(needs, equation) - steps * effect);
            }
        }

        /**
         * The most steps that way (1 or -1) which leave each equation within reach of the strings
         * behind; fewer than there can be if no steps do. A string without any effect need not move.
         */
        private int mostSteps(int string, int way) {
            int most = MOST_STEPS;
            boolean hasEffect = false;
            for (int equation = 0; equation < equations; equation++) {
                int effect = at(effects, cell(string, equation));
                int need = at(needs, equation);
                int reach = at(reaches, cell(string, equation));
                if (effect != 0) {
                    hasEffect = true;
                    most = Math.min(most, way * effect * need + reach);
                } else if (Math.abs(need) > reach) {
                    return -MOST_STEPS - 1;
                }
            }
            return hasEffect ? most : 0;
        }
    }

    /** The text; behind its end it answers a sign that no order has. */
    private static final class Text {
        private static final char NO_SIGN = (char) 0;

        private final char[] signs = new char[MOST_CHARACTERS];
        private int length = 0;

        int length() {
            return length;
        }

        void append(char sign) {
            if (length >= 0 && length < MOST_CHARACTERS) {
                signs[length] = sign;
                length++;
            }
        }

        void empty() {
            length = 0;
        }

        char at(int place) {
            return place >= 0 && place < length && place < MOST_CHARACTERS ? signs[place] : NO_SIGN;
        }

        boolean isDigit(int place) {
            return at(place) >= '0' && at(place) <= '9';
        }

        int digit(int place) {
            return isDigit(place) ? at(place) - '0' : 0;
        }

        int lettersFrom(int start) {
            int letters = 0;
            while (letters < MOST_CHARACTERS && at(start + letters) >= 'a' && at(start + letters) <= 'z') {
                letters++;
            }
            return letters;
        }

        boolean hasWord(int start, String word) {
            for (int letter = 0; letter < word.length(); letter++) {
                if (at(start + letter) != word.charAt(letter)) {
                    return false;
                }
            }
            return lettersFrom(start) == word.length();
        }
    }

    /** Follows the orders of a text on a house, up to the first one that is not possible. */
    private static final class Reading {
        static final int NO_FAULT = 0;
        static final int BAD_FORM = 1;
        private static final int NO_SUCH = 2;
        private static final int OTHERWISE = 3;

        private static final int PULL = 0;
        private static final int DROP = 1;
        private static final int UNTIE = 2;
        private static final int TELL = 3;
        private static final int PASS = 4;
        private static final int NO_WORD = 5;

        private static final int WHOLE = -1;

        private int position = 0;
        private int reason = NO_FAULT;
        private int cause = 0;
        private int orders = 0;

        int position() {
            return position;
        }

        int reason() {
            return reason;
        }

        int cause() {
            return cause;
        }

        /** How many orders were done. */
        int orders() {
            return orders;
        }

        void follow(Text text, House house) {
            position = 0;
            reason = NO_FAULT;
            cause = 0;
            orders = 0;
            for (int turn = 0; turn < MOST_CHARACTERS && position < text.length(); turn++) {
                int kind = kindAt(text, position);
                reason = checkForm(text, kind);
                if (reason == NO_FAULT) {
                    reason = reasonOf(doOrder(text, house, kind));
                }
                if (reason != NO_FAULT) {
                    return;
                }
                position += orderLength(kind);
                orders++;
            }
        }

        private static int kindAt(Text text, int start) {
            for (int kind = PULL; kind < NO_WORD; kind++) {
                if (text.hasWord(start, wordOf(kind))) {
                    return kind;
                }
            }
            return NO_WORD;
        }

        private static String wordOf(int kind) {
            switch (kind) {
                case PULL: return "pull";
                case DROP: return "drop";
                case UNTIE: return "untie";
                case TELL: return "tell";
                case PASS: return "pass";
                default: return "";
            }
        }

        private static int numbersOf(int kind) {
            return kind == UNTIE || kind == PASS ? 1 : 2;
        }

        private static int orderLength(int kind) {
            return wordOf(kind).length() + 2 * numbersOf(kind) + 1;
        }

        private int checkForm(Text text, int kind) {
            int broken = kind == NO_WORD ? 0 : breakOf(text, position, kind);
            if (broken == WHOLE) {
                return NO_FAULT;
            }
            cause = broken;
            return BAD_FORM;
        }

        private static int breakOf(Text text, int start, int kind) {
            int place = wordOf(kind).length();
            for (int number = 0; number < numbersOf(kind); number++) {
                if (text.at(start + place) != ' ') {
                    return place;
                }
                if (!text.isDigit(start + place + 1)) {
                    return place + 1;
                }
                place += 2;
            }
            return text.at(start + place) == ';' ? WHOLE : place;
        }

        private int doOrder(Text text, House house, int kind) {
            int word = position + wordOf(kind).length();
            int first = text.digit(word + 1);
            int second = text.digit(word + 3);
            switch (kind) {
                case PULL: return Work.pullBy(house, first, second);
                case DROP: return Work.pullBy(house, first, -second);
                case UNTIE: return Work.untieOnce(house, first);
                case TELL: return Work.tellHeight(house, first, second);
                case PASS: return Work.letHoursGo(house, first);
                default: return INVALID_ARGUMENT;
            }
        }

        private static int reasonOf(int answer) {
            if (answer == INVALID_ARGUMENT) {
                return NO_SUCH;
            }
            return isError(answer) ? OTHERWISE : NO_FAULT;
        }
    }
}

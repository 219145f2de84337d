import java.util.Arrays;

/** A row of small senders and hearers that looks into a plate through a wedge. */
public final class EchoRow {
    public static final int UNKNOWN = -1, BAD = -2, STATE = -3, FULL = -4, NONE = -99999;
    public static final int NULL = -11, PLACE = -12, CAST = -13, SIZE = -14;

    private static final int LAST_X = 50, COLUMNS = LAST_X + 1;
    private static final int DEEPEST_WEDGE = 20, DEEPEST_PLATE = 30, ROWS = DEEPEST_PLATE + 1;
    private static final int SLOWEST = 8;
    private static final int MOST_ELEMENTS = 8, MOST_TARGETS = 8, MOST_TOLD = 6;
    private static final int POINT = 0, BAR = 1, WALL = 2, GREATEST_STRENGTH = 1000;
    private static final int LAST_TICK = 4000, WIDEST_WITHIN = 100;
    private static final int SHEETS = 6, LONGEST_ROW = 64;
    private static final int BYTES = 0, SHORTS = 1, INTS = 2;
    private static final int GREATEST_BYTE = 127, GREATEST_SHORT = 32767, GREATEST_INT = 2147483647;

    private final Layers layers;
    private final Element[] elements;
    private final Target[] targets;
    private final Told[] tolds;
    private final Sheet[] sheets;
    private final int[] ahead;
    private int elementCount;
    private int targetCount;
    private int toldCount;
    private int findings;
    private boolean focused;

    public EchoRow() {
        layers = new Layers();
        elements = new Element[MOST_ELEMENTS];
        targets = new Target[MOST_TARGETS];
        tolds = new Told[MOST_TOLD];
        sheets = new Sheet[SHEETS];
        ahead = new int[LONGEST_ROW];
    }

    // ---- the body, elements, targets

    public int body(int w, int p, int u, int v) {
        if (outside(w, 0, DEEPEST_WEDGE) || outside(p, 1, DEEPEST_PLATE)) {
            return BAD;
        }
        if (outside(u, 1, SLOWEST) || outside(v, 1, SLOWEST)) {
            return BAD;
        }
        for (Target target : targets) {
            if (target != null && target.kind != WALL && outside(target.y, w, w + p)) {
                return STATE;
            }
        }
        layers.lay(w, p, u, v);
        for (Target target : targets) {
            if (target != null) {
                target.forgetTimes();
            }
        }
        focused = false;
        return layers.floor();
    }

    public int element(int x) {
        if (outside(x, 0, LAST_X)) {
            return BAD;
        }
        if (elementCount >= MOST_ELEMENTS) {
            return FULL;
        }
        elements[elementCount] = new Element(elementCount, x);
        elementCount++;
        focused = false;
        return elementCount - 1;
    }

    public int lose(int element, boolean lost) {
        Element one = elementNumbered(element);
        if (one == null) {
            return UNKNOWN;
        }
        one.works = !lost;
        focused = false;
        return countWorking();
    }

    public int target(int kind, int x, int z, int y, int strength) {
        if (outside(kind, POINT, WALL) || outside(strength, -GREATEST_STRENGTH, GREATEST_STRENGTH)) {
            return BAD;
        }
        if (kind != WALL && !layers.holds(x, y)) {
            return BAD;
        }
        if (kind == BAR && outside(z, x, LAST_X)) {
            return BAD;
        }
        if (targetCount >= MOST_TARGETS) {
            return FULL;
        }
        targets[targetCount] = newTarget(kind, x, z, y, strength);
        targetCount++;
        return targetCount - 1;
    }

    public int drop() {
        if (targetCount < 1) {
            return STATE;
        }
        targetCount--;
        targets[targetCount] = null;
        return targetCount;
    }

    public int taken(int target, int kind, int what) {
        Target one = targetNumbered(target);
        if (one == null) {
            return UNKNOWN;
        }
        if (outside(kind, POINT, WALL) || outside(what, 0, kind == POINT ? 2 : 3)) {
            return BAD;
        }
        // Every WALL is a BAR and every BAR a POINT, so a greater kind may be taken as a lesser one.
        if (one.kind < kind) {
            return found(CAST);
        }
        switch (what) {
            case 0:
                return one.strength;
            case 1:
                return one.x;
            case 2:
                return depthOf(one);
            default:
                return one.z;
        }
    }

    // ---- times

    public int time(int element, int x, int y) {
        Element one = elementNumbered(element);
        if (one == null) {
            return UNKNOWN;
        }
        return layers.holds(x, y) ? layers.timeTo(one.x, x, y) : BAD;
    }

    public int bend(int element, int x, int y) {
        Element one = elementNumbered(element);
        if (one == null) {
            return UNKNOWN;
        }
        return layers.holds(x, y) ? layers.bendTo(one.x, x, y) : BAD;
    }

    public int echoTime(int a, int b, int target) {
        Element first = elementNumbered(a);
        Element second = elementNumbered(b);
        Target one = targetNumbered(target);
        if (first == null || second == null || one == null) {
            return UNKNOWN;
        }
        return echoTimeBy(first, second, one);
    }

    public int slowness(int a, int b, int ticks) {
        Element first = elementNumbered(a);
        Element second = elementNumbered(b);
        if (first == null || second == null) {
            return UNKNOWN;
        }
        if (ticks < 0) {
            return BAD;
        }
        int nearest = 1;
        int leastGap = GREATEST_INT;
        for (int v = 1; v <= SLOWEST; v++) {
            int gap = Math.abs(layers.wallTime(first.x, second.x, v) - ticks);
            if (gap < leastGap) {
                leastGap = gap;
                nearest = v;
            }
        }
        return nearest;
    }

    // ---- echoes

    public int echo(int a, int b, int tick) {
        Element first = elementNumbered(a);
        Element second = elementNumbered(b);
        if (first == null || second == null) {
            return UNKNOWN;
        }
        return echoAt(first, second, tick);
    }

    public int gate(int a, int b, int from, int to, int least) {
        Element first = elementNumbered(a);
        Element second = elementNumbered(b);
        if (first == null || second == null) {
            return UNKNOWN;
        }
        if (outside(from, 0, to) || to > LAST_TICK || least < 1) {
            return BAD;
        }
        int earliest = NONE;
        // As least is 1 or more, only a tick at which some TARGET answers can pass.
        for (Target target : targets) {
            if (target != null) {
                int tick = echoTimeBy(first, second, target);
                boolean earlier = earliest == NONE || tick < earliest;
                if (earlier && !outside(tick, from, to) && Math.abs(echoAt(first, second, tick)) >= least) {
                    earliest = tick;
                }
            }
        }
        return earliest;
    }

    public int focus(int x, int y) {
        if (!layers.holds(x, y)) {
            return BAD;
        }
        if (countWorking() < 1) {
            return STATE;
        }
        int greatest = 0;
        for (Element element : elements) {
            if (element != null && element.works) {
                greatest = Math.max(greatest, layers.timeTo(element.x, x, y));
            }
        }
        for (Element element : elements) {
            if (element != null && element.works) {
                element.wait = greatest - layers.timeTo(element.x, x, y);
            }
        }
        focused = true;
        return greatest;
    }

    public int delay(int element) {
        Element one = elementNumbered(element);
        if (one == null) {
            return UNKNOWN;
        }
        if (!focused) {
            return STATE;
        }
        return one.works ? one.wait : NONE;
    }

    public int heard(int element, int tick) {
        Element one = elementNumbered(element);
        if (one == null) {
            return UNKNOWN;
        }
        return focused ? heardBy(one, tick) : STATE;
    }

    public int sum(int tick) {
        if (!focused) {
            return STATE;
        }
        int together = 0;
        for (Element element : elements) {
            if (element != null && element.works) {
                together += heardBy(element, (long) tick - element.wait);
            }
        }
        return together;
    }

    public int board(int x, int y) {
        if (!layers.holds(x, y)) {
            return BAD;
        }
        int together = 0;
        for (Element a : elements) {
            for (Element b : elements) {
                if (a != null && b != null && a.works && b.works) {
                    together += echoAt(a, b, layers.timeTo(a.x, x, y) + layers.timeTo(b.x, x, y));
                }
            }
        }
        return together;
    }

    // ---- what lies where

    public int tell(int a, int b, int tick) {
        Element first = elementNumbered(a);
        Element second = elementNumbered(b);
        if (first == null || second == null) {
            return UNKNOWN;
        }
        if (outside(tick, 0, LAST_TICK)) {
            return BAD;
        }
        if (toldCount >= MOST_TOLD) {
            return FULL;
        }
        tolds[toldCount] = new Told(first, second, tick);
        toldCount++;
        return toldCount;
    }

    public int forget() {
        int were = toldCount;
        for (int i = 0; i < tolds.length; i++) {
            tolds[i] = null;
        }
        toldCount = 0;
        return were;
    }

    public int places(int within) {
        if (outside(within, 0, WIDEST_WITHIN)) {
            return BAD;
        }
        int count = 0;
        for (int y = layers.wedge; y <= layers.floor(); y++) {
            for (int x = 0; x <= LAST_X; x++) {
                if (fits(x, y, within)) {
                    count++;
                }
            }
        }
        return count;
    }

    public int place(int within, int i) {
        if (outside(within, 0, WIDEST_WITHIN)) {
            return BAD;
        }
        if (outside(i, 0, ROWS * COLUMNS - 1)) {
            return NONE;
        }
        int left = i;
        for (int y = layers.wedge; y <= layers.floor(); y++) {
            for (int x = 0; x <= LAST_X; x++) {
                if (fits(x, y, within)) {
                    if (left == 0) {
                        return 1000 * x + y;
                    }
                    left--;
                }
            }
        }
        return NONE;
    }

    // ---- sheets

    public int sheet(int sheet, int lane, int n) {
        if (noSheet(sheet)) {
            return found(PLACE);
        }
        if (outside(lane, BYTES, INTS) || n > LONGEST_ROW) {
            return BAD;
        }
        if (n < 0) {
            return found(SIZE);
        }
        sheets[sheet] = new Sheet(lane, n);
        return n;
    }

    public int tear(int sheet) {
        if (noSheet(sheet)) {
            return found(PLACE);
        }
        int wasMissing = sheets[sheet] == null ? 1 : 0;
        sheets[sheet] = null;
        return wasMissing;
    }

    public int record(int sheet, int a, int b, int from) {
        if (noSheet(sheet)) {
            return found(PLACE);
        }
        Element first = elementNumbered(a);
        Element second = elementNumbered(b);
        if (first == null || second == null) {
            return UNKNOWN;
        }
        Sheet one = sheets[sheet];
        if (one == null) {
            return found(NULL);
        }
        for (int i = 0; i < one.numbers.length; i++) {
            one.numbers[i] = one.nearestTo(echoAt(first, second, (long) from + i));
        }
        return one.numbers.length;
    }

    public int add(int from, int to, int shift) {
        if (noSheet(from) || noSheet(to)) {
            return found(PLACE);
        }
        Sheet source = sheets[from];
        Sheet goal = sheets[to];
        if (source == null || goal == null) {
            return found(NULL);
        }
        int length = Math.min(source.numbers.length, ahead.length);
        // Both may be the same SHEET, so what it held is kept aside first.
        System.arraycopy(source.numbers, 0, ahead, 0, length);
        int count = 0;
        for (int i = 0; i < length; i++) {
            long place = (long) i + shift;
            if (place >= 0 && place < goal.numbers.length) {
                int j = (int) place;
                goal.numbers[j] = goal.nearestTo((long) goal.numbers[j] + ahead[i]);
                count++;
            }
        }
        return count;
    }

    public int copy(int from, int i, int to, int j, int n) {
        if (noSheet(from) || noSheet(to)) {
            return found(PLACE);
        }
        Sheet source = sheets[from];
        Sheet goal = sheets[to];
        if (source == null || goal == null) {
            return found(NULL);
        }
        if (source.lane != goal.lane) {
            return found(CAST);
        }
        if (n < 0) {
            return found(SIZE);
        }
        if (!source.hasRun(i, n) || !goal.hasRun(j, n)) {
            return found(PLACE);
        }
        System.arraycopy(source.numbers, i, goal.numbers, j, n);
        return n;
    }

    public int at(int sheet, int i) {
        if (noSheet(sheet)) {
            return found(PLACE);
        }
        Sheet one = sheets[sheet];
        if (one == null) {
            return found(NULL);
        }
        if (i < 0 || i >= one.numbers.length) {
            return found(PLACE);
        }
        return one.numbers[i];
    }

    public int peak(int sheet) {
        if (noSheet(sheet)) {
            return found(PLACE);
        }
        Sheet one = sheets[sheet];
        if (one == null) {
            return found(NULL);
        }
        int farthest = NONE;
        long greatest = -1;
        for (int i = 0; i < one.numbers.length; i++) {
            // As a long, for the least int has no opposite among ints.
            long distance = Math.abs((long) one.numbers[i]);
            if (distance > greatest) {
                greatest = distance;
                farthest = i;
            }
        }
        return farthest;
    }

    public int total(int what) {
        switch (what) {
            case 0:
                return elementCount;
            case 1:
                return countWorking();
            case 2:
                return targetCount;
            case 3:
                return toldCount;
            case 4:
                return findings;
            case 5:
                return countSheets();
            case 6:
                return layers.floor();
            case 7:
                return focused ? 1 : 0;
            default:
                return BAD;
        }
    }

    // ---- what the calls share

    private static boolean outside(int number, int least, int greatest) {
        return number < least || number > greatest;
    }

    private static boolean noSheet(int sheet) {
        return outside(sheet, 0, SHEETS - 1);
    }

    private int found(int finding) {
        findings++;
        return finding;
    }

    private Element elementNumbered(int number) {
        return number < 0 || number >= elements.length ? null : elements[number];
    }

    private Target targetNumbered(int number) {
        return number < 0 || number >= targets.length ? null : targets[number];
    }

    private static Target newTarget(int kind, int x, int z, int y, int strength) {
        switch (kind) {
            case POINT:
                return new Target(POINT, x, x, y, strength);
            case BAR:
                return new Target(BAR, x, z, y, strength);
            default:
                return new Target(WALL, 0, LAST_X, 0, strength);
        }
    }

    /** A WALL goes with THE FLOOR, so its depth is never kept. */
    private int depthOf(Target target) {
        return target.kind == WALL ? layers.floor() : target.y;
    }

    private int countWorking() {
        int count = 0;
        for (Element element : elements) {
            if (element != null && element.works) {
                count++;
            }
        }
        return count;
    }

    private int countSheets() {
        int count = 0;
        for (Sheet sheet : sheets) {
            if (sheet != null) {
                count++;
            }
        }
        return count;
    }

    private int echoTimeBy(Element a, Element b, Target target) {
        int pair = a.number * MOST_ELEMENTS + b.number;
        if (pair < 0 || pair >= target.times.length) {
            return NONE;
        }
        if (target.times[pair] < 0) {
            int y = depthOf(target);
            int least = GREATEST_INT;
            for (int x = target.x; x <= target.z; x++) {
                least = Math.min(least, layers.timeTo(a.x, x, y) + layers.timeTo(b.x, x, y));
            }
            target.times[pair] = least;
        }
        return target.times[pair];
    }

    /** The tick is a long, so that one less a DELAY, or far on in a row, never wraps. */
    private int echoAt(Element a, Element b, long tick) {
        int together = 0;
        if (a.works && b.works && tick >= 0) {
            for (Target target : targets) {
                if (target != null && echoTimeBy(a, b, target) == tick) {
                    together += target.strength;
                }
            }
        }
        return together;
    }

    private int heardBy(Element hearer, long tick) {
        int together = 0;
        for (Element sender : elements) {
            if (sender != null && sender.works) {
                together += echoAt(sender, hearer, tick - sender.wait);
            }
        }
        return together;
    }

    private boolean fits(int x, int y, int within) {
        for (Told told : tolds) {
            if (told != null) {
                int ticks = layers.timeTo(told.a.x, x, y) + layers.timeTo(told.b.x, x, y);
                if (Math.abs(ticks - told.tick) > within) {
                    return false;
                }
            }
        }
        return true;
    }

    /**
     * THE WEDGE and THE PLATE. A straight way takes no fewer ticks the farther it goes aside, so no b beyond an
     * ELEMENT and a place makes a TIME less, and those between give the same TIME to all that are as far apart:
     * TIMES are kept by how far aside and how deep in THE PLATE a place is, for all ELEMENTS together.
     */
    private static final class Layers {
        /** A row behind those of THE PLATE, for a slowness that is tried out. */
        private static final int TRIED = ROWS;
        /** No straight way is longer than its two sides together, and no layer is deeper than THE PLATE can be. */
        private static final int MOST_TICKS = SLOWEST * (LAST_X + DEEPEST_PLATE);

        int wedge;
        private int plate;
        private int plateSlowness;
        private final int[] wedgeTicks = new int[COLUMNS];
        /** Of the depth that was looked at last. */
        private final int[] plateTicks = new int[COLUMNS];
        private final int[] times = new int[(ROWS + 1) * COLUMNS];
        private final boolean[] ready = new boolean[ROWS + 1];

        Layers() {
            lay(0, DEEPEST_PLATE, 1, 1);
        }

        void lay(int w, int p, int u, int v) {
            wedge = w;
            plate = p;
            plateSlowness = v;
            for (int row = 0; row < ready.length; row++) {
                ready[row] = false;
            }
            fillTicks(wedgeTicks, w, u);
        }

        int floor() {
            return wedge + plate;
        }

        boolean holds(int x, int y) {
            return !outside(x, 0, LAST_X) && !outside(y, wedge, wedge + plate);
        }

        /** The TIME from an x at depth 0 to a place of THE PLATE. */
        int timeTo(int fromX, int x, int y) {
            int row = y - wedge;
            int aside = Math.abs(fromX - x);
            if (outside(row, 0, DEEPEST_PLATE) || outside(aside, 0, LAST_X)) {
                return NONE;
            }
            if (!ready[row]) {
                fillTimes(row, row, plateSlowness);
            }
            return times[row * COLUMNS + aside];
        }

        int bendTo(int fromX, int x, int y) {
            int least = timeTo(fromX, x, y);
            fillTicks(plateTicks, y - wedge, plateSlowness);
            // All of 0 .. 50: rounding can let a way that overshoots take no more ticks.
            for (int b = 0; b <= LAST_X; b++) {
                int before = Math.abs(fromX - b);
                int behind = Math.abs(b - x);
                boolean known = before < wedgeTicks.length && behind < plateTicks.length;
                if (known && wedgeTicks[before] + plateTicks[behind] == least) {
                    return b;
                }
            }
            return NONE;
        }

        /** The ECHO TIME by a WALL, were THE PLATE of slowness v. */
        int wallTime(int firstX, int secondX, int v) {
            fillTimes(TRIED, plate, v);
            int least = GREATEST_INT;
            for (int x = 0; x <= LAST_X; x++) {
                int first = Math.abs(firstX - x);
                int second = Math.abs(secondX - x);
                if (first <= LAST_X && second <= LAST_X) {
                    least = Math.min(least, times[TRIED * COLUMNS + first] + times[TRIED * COLUMNS + second]);
                }
            }
            return least;
        }

        private void fillTimes(int row, int depth, int slowness) {
            if (outside(row, 0, TRIED)) {
                return;
            }
            fillTicks(plateTicks, depth, slowness);
            for (int aside = 0; aside <= LAST_X; aside++) {
                int least = GREATEST_INT;
                for (int b = 0; b <= aside; b++) {
                    least = Math.min(least, wedgeTicks[b] + plateTicks[aside - b]);
                }
                times[row * COLUMNS + aside] = least;
            }
            ready[row] = true;
        }

        /** The ticks of straight ways as deep as told, by how far aside they go. */
        private static void fillTicks(int[] row, int depth, int slowness) {
            int ticks = 0;
            for (int aside = 0; aside < row.length; aside++) {
                int square = slowness * slowness * (aside * aside + depth * depth);
                // A longer way takes no fewer ticks, so each goes on from the one ahead.
                while (ticks < MOST_TICKS && (ticks + 1) * (ticks + 1) <= square) {
                    ticks++;
                }
                row[aside] = ticks;
            }
        }
    }

    private static final class Element {
        final int number;
        final int x;
        boolean works;
        /** Its DELAY, while there is a FOCUS. */
        int wait;

        Element(int number, int x) {
            this.number = number;
            this.x = x;
            works = true;
        }
    }

    private static final class Target {
        final int kind;
        final int x;
        final int z;
        final int y;
        final int strength;
        /** ECHO TIMES of each two ELEMENTS; below 0 where not yet looked for. */
        final int[] times;

        Target(int kind, int x, int z, int y, int strength) {
            this.kind = kind;
            this.x = x;
            this.z = z;
            this.y = y;
            this.strength = strength;
            times = new int[MOST_ELEMENTS * MOST_ELEMENTS];
            Arrays.fill(times, -1);
        }

        void forgetTimes() {
            Arrays.fill(times, -1);
        }
    }

    private static final class Told {
        final Element a;
        final Element b;
        final int tick;

        Told(Element a, Element b, int tick) {
            this.a = a;
            this.b = b;
            this.tick = tick;
        }
    }

    private static final class Sheet {
        final int lane;
        final int[] numbers;

        Sheet(int lane, int length) {
            this.lane = lane;
            this.numbers = new int[length];
        }

        boolean hasRun(int from, int n) {
            return from >= 0 && (long) from + n <= numbers.length;
        }

        int nearestTo(long number) {
            long greatest = lane == BYTES ? GREATEST_BYTE : lane == SHORTS ? GREATEST_SHORT : GREATEST_INT;
            long least = -greatest - 1;
            return (int) Math.max(least, Math.min(greatest, number));
        }
    }
}

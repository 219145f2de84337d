import java.util.Arrays;

/** A row of small senders and hearers that looks into a plate through a wedge. */
public final class EchoRow {
    public static final int UNKNOWN = -1, BAD = -2, STATE = -3, FULL = -4, NONE = -99999;
    public static final int NULL = -11, PLACE = -12, CAST = -13, SIZE = -14;

    private static final int LAST_X = 50, COLUMNS = LAST_X + 1;
    private static final int DEEPEST_WEDGE = 20, DEEPEST_PLATE = 30, ROWS = DEEPEST_PLATE + 1;
    private static final int SLOWEST = 8;
    private static final int MOST_ELEMENTS = 8, MOST_TARGETS = 8, MOST_TOLD = 6;
    private static final int POINT = 0, BAR = 1, WALL = 2, GREATEST_STRENGTH = 1000;
    private static final int LAST_TICK = 4000, WIDEST_WITHIN = 100;
    private static final int SHEETS = 6, LONGEST_ROW = 64;
    private static final int BYTES = 0, SHORTS = 1, INTS = 2;
    private static final int GREATEST_BYTE = 127, GREATEST_SHORT = 32767, GREATEST_INT = 2147483647;

    private final Layers layers;
    private final Element[] elements;
    private final Target[] targets;
    private final Told[] tolds;
    private final Sheet[] sheets;
    private final int[] ahead;
    private int elementCount;
    private int targetCount;
    private int toldCount;
    private int findings;
    private boolean focused;

    public EchoRow() {
        layers = new Layers();
        elements = new Element[MOST_ELEMENTS];
        targets = new Target[MOST_TARGETS];
        tolds = new Told[MOST_TOLD];
        sheets = new Sheet[SHEETS];
        ahead = new int[LONGEST_ROW];
    }

    // ---- the body, elements, targets

    public int body(int w, int p, int u, int v) {
        if (outside(w, 0, DEEPEST_WEDGE) || outside(p, 1, DEEPEST_PLATE)) {
            return BAD;
        }
        if (outside(u, 1, SLOWEST) || outside(v, 1, SLOWEST)) {
            return BAD;
        }
        for (Target target : targets) {
            if (target != null && target.kind != WALL && outside(target.y, w, w + p)) {
                return STATE;
            }
        }
        layers.lay(w, p, u, v);
        for (Element element : elements) {
            if (element != null) {
                element.forgetTimes();
            }
        }
        for (Target target : targets) {
            if (target != null) {
                target.forgetTimes();
            }
        }
        focused = false;
        return layers.floor();
    }

    public int element(int x) {
        if (outside(x, 0, LAST_X)) {
            return BAD;
        }
        if (elementCount >= MOST_ELEMENTS) {
            return FULL;
        }
        elements[elementCount] = new Element(elementCount, x);
        elementCount++;
        focused = false;
        return elementCount - 1;
    }

    public int lose(int element, boolean lost) {
        Element one = elementNumbered(element);
        if (one == null) {
            return UNKNOWN;
        }
        one.works = !lost;
        focused = false;
        return countWorking();
    }

    public int target(int kind, int x, int z, int y, int strength) {
        if (outside(kind, POINT, WALL) || outside(strength, -GREATEST_STRENGTH, GREATEST_STRENGTH)) {
            return BAD;
        }
        if (kind != WALL && !layers.holds(x, y)) {
            return BAD;
        }
        if (kind == BAR && outside(z, x, LAST_X)) {
            return BAD;
        }
        if (targetCount >= MOST_TARGETS) {
            return FULL;
        }
        targets[targetCount] = newTarget(kind, x, z, y, strength);
        targetCount++;
        return targetCount - 1;
    }

    public int drop() {
        if (targetCount < 1) {
            return STATE;
        }
        targetCount--;
        targets[targetCount] = null;
        return targetCount;
    }

    public int taken(int target, int kind, int what) {
        Target one = targetNumbered(target);
        if (one == null) {
            return UNKNOWN;
        }
        if (outside(kind, POINT, WALL) || outside(what, 0, kind == POINT ? 2 : 3)) {
            return BAD;
        }
        // Every WALL is a BAR and every BAR a POINT, so a greater kind may be taken as a lesser one.
        if (one.kind < kind) {
            return found(CAST);
        }
        switch (what) {
            case 0:
                return one.strength;
            case 1:
                return one.x;
            case 2:
                return depthOf(one);
            default:
                return one.z;
        }
    }

    // ---- times

    public int time(int element, int x, int y) {
        Element one = elementNumbered(element);
        if (one == null) {
            return UNKNOWN;
        }
        return layers.holds(x, y) ? timeTo(one, x, y) : BAD;
    }

    public int bend(int element, int x, int y) {
        Element one = elementNumbered(element);
        if (one == null) {
            return UNKNOWN;
        }
        return layers.holds(x, y) ? layers.leastBend(one.x, x, y - layers.wedge) : BAD;
    }

    public int echoTime(int a, int b, int target) {
        Element first = elementNumbered(a);
        Element second = elementNumbered(b);
        Target one = targetNumbered(target);
        if (first == null || second == null || one == null) {
            return UNKNOWN;
        }
        return echoTimeBy(first, second, one);
    }

    public int slowness(int a, int b, int ticks) {
        Element first = elementNumbered(a);
        Element second = elementNumbered(b);
        if (first == null || second == null) {
            return UNKNOWN;
        }
        if (ticks < 0) {
            return BAD;
        }
        int nearest = 1;
        int leastGap = GREATEST_INT;
        for (int v = 1; v <= SLOWEST; v++) {
            int gap = Math.abs(layers.wallTicks(first.x, second.x, v) - ticks);
            if (gap < leastGap) {
                leastGap = gap;
                nearest = v;
            }
        }
        return nearest;
    }

    // ---- echoes

    public int echo(int a, int b, int tick) {
        Element first = elementNumbered(a);
        Element second = elementNumbered(b);
        if (first == null || second == null) {
            return UNKNOWN;
        }
        return echoAt(first, second, tick);
    }

    public int gate(int a, int b, int from, int to, int least) {
        Element first = elementNumbered(a);
        Element second = elementNumbered(b);
        if (first == null || second == null) {
            return UNKNOWN;
        }
        if (outside(from, 0, to) || to > LAST_TICK || least < 1) {
            return BAD;
        }
        int earliest = NONE;
        // As least is 1 or more, only a tick at which some TARGET answers can pass.
        for (Target target : targets) {
            if (target != null) {
                int tick = echoTimeBy(first, second, target);
                boolean earlier = earliest == NONE || tick < earliest;
                if (earlier && !outside(tick, from, to) && Math.abs(echoAt(first, second, tick)) >= least) {
                    earliest = tick;
                }
            }
        }
        return earliest;
    }

    public int focus(int x, int y) {
        if (!layers.holds(x, y)) {
            return BAD;
        }
        if (countWorking() < 1) {
            return STATE;
        }
        int greatest = 0;
        for (Element element : elements) {
            if (element != null && element.works) {
                greatest = Math.max(greatest, timeTo(element, x, y));
            }
        }
        for (Element element : elements) {
            if (element != null && element.works) {
                element.wait = greatest - timeTo(element, x, y);
            }
        }
        focused = true;
        return greatest;
    }

    public int delay(int element) {
        Element one = elementNumbered(element);
        if (one == null) {
            return UNKNOWN;
        }
        if (!focused) {
            return STATE;
        }
        return one.works ? one.wait : NONE;
    }

    public int heard(int element, int tick) {
        Element one = elementNumbered(element);
        if (one == null) {
            return UNKNOWN;
        }
        return focused ? heardBy(one, tick) : STATE;
    }

    public int sum(int tick) {
        if (!focused) {
            return STATE;
        }
        int together = 0;
        for (Element element : elements) {
            if (element != null && element.works) {
                together += heardBy(element, (long) tick - element.wait);
            }
        }
        return together;
    }

    public int board(int x, int y) {
        if (!layers.holds(x, y)) {
            return BAD;
        }
        int together = 0;
        for (Element a : elements) {
            for (Element b : elements) {
                if (a != null && b != null && a.works && b.works) {
                    together += echoAt(a, b, timeTo(a, x, y) + timeTo(b, x, y));
                }
            }
        }
        return together;
    }

    // ---- what lies where

    public int tell(int a, int b, int tick) {
        Element first = elementNumbered(a);
        Element second = elementNumbered(b);
        if (first == null || second == null) {
            return UNKNOWN;
        }
        if (outside(tick, 0, LAST_TICK)) {
            return BAD;
        }
        if (toldCount >= MOST_TOLD) {
            return FULL;
        }
        tolds[toldCount] = new Told(first, second, tick);
        toldCount++;
        return toldCount;
    }

    public int forget() {
        int were = toldCount;
        for (int i = 0; i < tolds.length; i++) {
            tolds[i] = null;
        }
        toldCount = 0;
        return were;
    }

    public int places(int within) {
        if (outside(within, 0, WIDEST_WITHIN)) {
            return BAD;
        }
        int count = 0;
        for (int y = layers.wedge; y <= layers.floor(); y++) {
            for (int x = 0; x <= LAST_X; x++) {
                if (fits(x, y, within)) {
                    count++;
                }
            }
        }
        return count;
    }

    public int place(int within, int i) {
        if (outside(within, 0, WIDEST_WITHIN)) {
            return BAD;
        }
        if (outside(i, 0, ROWS * COLUMNS - 1)) {
            return NONE;
        }
        int left = i;
        for (int y = layers.wedge; y <= layers.floor(); y++) {
            for (int x = 0; x <= LAST_X; x++) {
                if (fits(x, y, within)) {
                    if (left == 0) {
                        return 1000 * x + y;
                    }
                    left--;
                }
            }
        }
        return NONE;
    }

    // ---- sheets

    public int sheet(int sheet, int lane, int n) {
        if (noSheet(sheet)) {
            return found(PLACE);
        }
        if (outside(lane, BYTES, INTS) || n > LONGEST_ROW) {
            return BAD;
        }
        if (n < 0) {
            return found(SIZE);
        }
        sheets[sheet] = new Sheet(lane, n);
        return n;
    }

    public int tear(int sheet) {
        if (noSheet(sheet)) {
            return found(PLACE);
        }
        int wasMissing = sheets[sheet] == null ? 1 : 0;
        sheets[sheet] = null;
        return wasMissing;
    }

    public int record(int sheet, int a, int b, int from) {
        if (noSheet(sheet)) {
            return found(PLACE);
        }
        Element first = elementNumbered(a);
        Element second = elementNumbered(b);
        if (first == null || second == null) {
            return UNKNOWN;
        }
        Sheet one = sheets[sheet];
        if (one == null) {
            return found(NULL);
        }
        for (int i = 0; i < one.numbers.length; i++) {
            one.numbers[i] = one.nearestTo(echoAt(first, second, (long) from + i));
        }
        return one.numbers.length;
    }

    public int add(int from, int to, int shift) {
        if (noSheet(from) || noSheet(to)) {
            return found(PLACE);
        }
        Sheet source = sheets[from];
        Sheet goal = sheets[to];
        if (source == null || goal == null) {
            return found(NULL);
        }
        int length = Math.min(source.numbers.length, ahead.length);
        // Both may be the same SHEET, so what it held is kept aside first.
        System.arraycopy(source.numbers, 0, ahead, 0, length);
        int count = 0;
        for (int i = 0; i < length; i++) {
            long place = (long) i + shift;
            if (place >= 0 && place < goal.numbers.length) {
                int j = (int) place;
                goal.numbers[j] = goal.nearestTo((long) goal.numbers[j] + ahead[i]);
                count++;
            }
        }
        return count;
    }

    public int copy(int from, int i, int to, int j, int n) {
        if (noSheet(from) || noSheet(to)) {
            return found(PLACE);
        }
        Sheet source = sheets[from];
        Sheet goal = sheets[to];
        if (source == null || goal == null) {
            return found(NULL);
        }
        if (source.lane != goal.lane) {
            return found(CAST);
        }
        if (n < 0) {
            return found(SIZE);
        }
        if (!source.hasRun(i, n) || !goal.hasRun(j, n)) {
            return found(PLACE);
        }
        System.arraycopy(source.numbers, i, goal.numbers, j, n);
        return n;
    }

    public int at(int sheet, int i) {
        if (noSheet(sheet)) {
            return found(PLACE);
        }
        Sheet one = sheets[sheet];
        if (one == null) {
            return found(NULL);
        }
        if (i < 0 || i >= one.numbers.length) {
            return found(PLACE);
        }
        return one.numbers[i];
    }

    public int peak(int sheet) {
        if (noSheet(sheet)) {
            return found(PLACE);
        }
        Sheet one = sheets[sheet];
        if (one == null) {
            return found(NULL);
        }
        int farthest = NONE;
        long greatest = -1;
        for (int i = 0; i < one.numbers.length; i++) {
            // As a long, for the least int has no opposite among ints.
            long distance = Math.abs((long) one.numbers[i]);
            if (distance > greatest) {
                greatest = distance;
                farthest = i;
            }
        }
        return farthest;
    }

    public int total(int what) {
        switch (what) {
            case 0:
                return elementCount;
            case 1:
                return countWorking();
            case 2:
                return targetCount;
            case 3:
                return toldCount;
            case 4:
                return findings;
            case 5:
                return countSheets();
            case 6:
                return layers.floor();
            case 7:
                return focused ? 1 : 0;
            default:
                return BAD;
        }
    }

    // ---- what the calls share

    private static boolean outside(int number, int least, int greatest) {
        return number < least || number > greatest;
    }

    private static boolean noSheet(int sheet) {
        return outside(sheet, 0, SHEETS - 1);
    }

    private int found(int finding) {
        findings++;
        return finding;
    }

    private Element elementNumbered(int number) {
        return number < 0 || number >= elements.length ? null : elements[number];
    }

    private Target targetNumbered(int number) {
        return number < 0 || number >= targets.length ? null : targets[number];
    }

    private static Target newTarget(int kind, int x, int z, int y, int strength) {
        switch (kind) {
            case POINT:
                return new Target(POINT, x, x, y, strength);
            case BAR:
                return new Target(BAR, x, z, y, strength);
            default:
                return new Target(WALL, 0, LAST_X, 0, strength);
        }
    }

    /** A WALL goes with THE FLOOR, so its depth is never kept. */
    private int depthOf(Target target) {
        return target.kind == WALL ? layers.floor() : target.y;
    }

    private int countWorking() {
        int count = 0;
        for (Element element : elements) {
            if (element != null && element.works) {
                count++;
            }
        }
        return count;
    }

    private int countSheets() {
        int count = 0;
        for (Sheet sheet : sheets) {
            if (sheet != null) {
                count++;
            }
        }
        return count;
    }

    /** The TIME to a place that THE PLATE is known to hold. */
    private int timeTo(Element element, int x, int y) {
        int row = y - layers.wedge;
        int cell = row * COLUMNS + x;
        if (cell < 0 || cell >= element.times.length) {
            return NONE;
        }
        if (element.times[cell] < 0) {
            element.times[cell] = layers.leastTicks(element.x, x, row);
        }
        return element.times[cell];
    }

    private int echoTimeBy(Element a, Element b, Target target) {
        int pair = a.number * MOST_ELEMENTS + b.number;
        if (pair < 0 || pair >= target.times.length) {
            return NONE;
        }
        if (target.times[pair] < 0) {
            int y = depthOf(target);
            int least = GREATEST_INT;
            for (int x = target.x; x <= target.z; x++) {
                least = Math.min(least, timeTo(a, x, y) + timeTo(b, x, y));
            }
            target.times[pair] = least;
        }
        return target.times[pair];
    }

    /** The tick is a long, so that one less a DELAY, or far on in a row, never wraps. */
    private int echoAt(Element a, Element b, long tick) {
        int together = 0;
        if (a.works && b.works && tick >= 0) {
            for (Target target : targets) {
                if (target != null && echoTimeBy(a, b, target) == tick) {
                    together += target.strength;
                }
            }
        }
        return together;
    }

    private int heardBy(Element hearer, long tick) {
        int together = 0;
        for (Element sender : elements) {
            if (sender != null && sender.works) {
                together += echoAt(sender, hearer, tick - sender.wait);
            }
        }
        return together;
    }

    private boolean fits(int x, int y, int within) {
        for (Told told : tolds) {
            if (told != null) {
                int ticks = timeTo(told.a, x, y) + timeTo(told.b, x, y);
                if (Math.abs(ticks - told.tick) > within) {
                    return false;
                }
            }
        }
        return true;
    }

    /** THE WEDGE and THE PLATE, with the ticks of straight ways through each. */
    private static final class Layers {
        private static final int WALL_ROW = ROWS, WEDGE_ROW = ROWS + 1, ALL_ROWS = ROWS + 2;

        int wedge;
        private int plate;
        private int plateSlowness;
        /** A row of ticks by dx for each dy in THE PLATE, then one for a WALL tried out, one for THE WEDGE. */
        private final int[] legs = new int[ALL_ROWS * COLUMNS];
        private final boolean[] ready = new boolean[ALL_ROWS];

        Layers() {
            lay(0, DEEPEST_PLATE, 1, 1);
        }

        void lay(int w, int p, int u, int v) {
            wedge = w;
            plate = p;
            plateSlowness = v;
            for (int row = 0; row < ready.length; row++) {
                ready[row] = false;
            }
            fillRow(WEDGE_ROW, w, u);
        }

        int floor() {
            return wedge + plate;
        }

        boolean holds(int x, int y) {
            return !outside(x, 0, LAST_X) && !outside(y, wedge, wedge + plate);
        }

        /** The least ticks from an element to x, as deep in THE PLATE as the row tells. */
        int leastTicks(int elementX, int x, int row) {
            if (outside(elementX, 0, LAST_X) || outside(x, 0, LAST_X) || outside(row, 0, WALL_ROW)) {
                return NONE;
            }
            if (!ready[row]) {
                fillRow(row, row, plateSlowness);
            }
            int least = GREATEST_INT;
            int last = Math.max(elementX, x);
            // Both legs only grow outside of these two, so no b beyond them takes fewer ticks.
            for (int b = Math.min(elementX, x); b <= last; b++) {
                int first = legs[WEDGE_ROW * COLUMNS + Math.abs(elementX - b)];
                int second = legs[row * COLUMNS + Math.abs(b - x)];
                least = Math.min(least, first + second);
            }
            return least;
        }

        /** The least b of all by which that many ticks are taken. */
        int leastBend(int elementX, int x, int row) {
            int least = leastTicks(elementX, x, row);
            if (least < 0) {
                return NONE;
            }
            // All of 0 .. 50: rounding can let a way that overshoots take no more ticks.
            for (int b = 0; b <= LAST_X; b++) {
                int first = legs[WEDGE_ROW * COLUMNS + Math.abs(elementX - b)];
                int second = legs[row * COLUMNS + Math.abs(b - x)];
                if (first + second == least) {
                    return b;
                }
            }
            return NONE;
        }

        /** The ECHO TIME by a WALL, were THE PLATE of slowness v. */
        int wallTicks(int firstX, int secondX, int v) {
            fillRow(WALL_ROW, plate, v);
            int least = GREATEST_INT;
            for (int x = 0; x <= LAST_X; x++) {
                least = Math.min(least, leastTicks(firstX, x, WALL_ROW) + leastTicks(secondX, x, WALL_ROW));
            }
            return least;
        }

        private void fillRow(int row, int dy, int slowness) {
            if (outside(row, 0, ALL_ROWS - 1)) {
                return;
            }
            int ticks = slowness * dy;
            for (int dx = 0; dx <= LAST_X; dx++) {
                int square = slowness * slowness * (dx * dx + dy * dy);
                // A longer way takes no fewer ticks, so each goes on from the one ahead.
                while ((ticks + 1) * (ticks + 1) <= square) {
                    ticks++;
                }
                legs[row * COLUMNS + dx] = ticks;
            }
            ready[row] = true;
        }
    }

    private static final class Element {
        final int number;
        final int x;
        boolean works;
        /** Its DELAY, while there is a FOCUS. */
        int wait;
        /** TIMES to the places of THE PLATE, row by row; below 0 where not yet looked for. */
        final int[] times;

        Element(int number, int x) {
            this.number = number;
            this.x = x;
            works = true;
            times = new int[ROWS * COLUMNS];
            Arrays.fill(times, -1);
        }

        void forgetTimes() {
            Arrays.fill(times, -1);
        }
    }

    private static final class Target {
        final int kind;
        final int x;
        final int z;
        final int y;
        final int strength;
        /** ECHO TIMES of each two ELEMENTS; below 0 where not yet looked for. */
        final int[] times;

        Target(int kind, int x, int z, int y, int strength) {
            this.kind = kind;
            this.x = x;
            this.z = z;
            this.y = y;
            this.strength = strength;
            times = new int[MOST_ELEMENTS * MOST_ELEMENTS];
            Arrays.fill(times, -1);
        }

        void forgetTimes() {
            Arrays.fill(times, -1);
        }
    }

    private static final class Told {
        final Element a;
        final Element b;
        final int tick;

        Told(Element a, Element b, int tick) {
            this.a = a;
            this.b = b;
            this.tick = tick;
        }
    }

    private static final class Sheet {
        final int lane;
        final int[] numbers;

        Sheet(int lane, int length) {
            this.lane = lane;
            this.numbers = new int[length];
        }

        boolean hasRun(int from, int n) {
            return from >= 0 && (long) from + n <= numbers.length;
        }

        int nearestTo(long number) {
            long greatest = lane == BYTES ? GREATEST_BYTE : lane == SHORTS ? GREATEST_SHORT : GREATEST_INT;
            long least = -greatest - 1;
            return (int) Math.max(least, Math.min(greatest, number));
        }
    }
}

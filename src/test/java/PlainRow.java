import java.util.ArrayList;
import java.util.List;

/**
 * The document once more, by the slowest and plainest means: nothing is kept that can be
 * worked out anew, every tick and every place is tried. ModelTest holds EchoRow against it.
 */
final class PlainRow {
    private record Goal(int kind, int x, int z, int y, int strength) { }

    private record Told(int a, int b, int tick) { }

    private int w = 0, p = 30, u = 1, v = 1;
    private final List<Integer> xs = new ArrayList<>();
    private final List<Boolean> works = new ArrayList<>();
    private final List<Goal> goals = new ArrayList<>();
    private final List<Told> tolds = new ArrayList<>();
    private final int[][] rows = new int[6][];
    private final int[] lanes = new int[6];
    private int findings = 0;
    private int[] focus = null;

    private static int root(int square) {
        int r = 0;
        while ((r + 1) * (r + 1) <= square) {
            r++;
        }
        return r;
    }

    private static final int[] ROOTS = new int[64 * 5000];

    static {
        for (int i = 0, r = 0; i < ROOTS.length; i++) {
            if ((r + 1) * (r + 1) <= i) {
                r++;
            }
            ROOTS[i] = r;
        }
        for (int i = 0; i < ROOTS.length; i += 997) {
            if (ROOTS[i] != root(i)) {
                throw new IllegalStateException("the roots are wrong");
            }
        }
    }

    private static int straight(int k, int dx, int dy) {
        return ROOTS[k * k * (dx * dx + dy * dy)];
    }

    private int way(int e, int b, int x, int y, int slow) {
        return straight(u, xs.get(e) - b, w) + straight(slow, b - x, y - w);
    }

    private int bendOf(int e, int x, int y, int slow) {
        int best = 0;
        for (int b = 0; b <= 50; b++) {
            if (way(e, b, x, y, slow) < way(e, best, x, y, slow)) {
                best = b;
            }
        }
        return best;
    }

    private int timeOf(int e, int x, int y) {
        return way(e, bendOf(e, x, y, v), x, y, v);
    }

    private boolean inPlate(int x, int y) {
        return x >= 0 && x <= 50 && y >= w && y <= w + p;
    }

    private boolean isElement(int e) {
        return e >= 0 && e < xs.size();
    }

    private boolean isSheet(int s) {
        return s >= 0 && s <= 5;
    }

    private int found(int finding) {
        findings++;
        return finding;
    }

    private int y(Goal g) {
        return g.kind() == 2 ? w + p : g.y();
    }

    private int echoTimeOf(int a, int b, Goal g) {
        int least = Integer.MAX_VALUE;
        for (int x = g.x(); x <= g.z(); x++) {
            least = Math.min(least, timeOf(a, x, y(g)) + timeOf(b, x, y(g)));
        }
        return least;
    }

    private int[] echoTimesOf(int a, int b) {
        int[] times = new int[goals.size()];
        for (int t = 0; t < times.length; t++) {
            times[t] = echoTimeOf(a, b, goals.get(t));
        }
        return times;
    }

    private int echoOf(int a, int b, int[] times, long tick) {
        int all = 0;
        for (int t = 0; t < times.length; t++) {
            if (times[t] == tick && works.get(a) && works.get(b)) {
                all += goals.get(t).strength();
            }
        }
        return all;
    }

    private int working() {
        int n = 0;
        for (boolean one : works) {
            n += one ? 1 : 0;
        }
        return n;
    }

    private int heardOf(int e, long tick) {
        int all = 0;
        for (int a = 0; a < xs.size(); a++) {
            if (works.get(a)) {
                all += echoOf(a, e, echoTimesOf(a, e), tick - delayOf(a));
            }
        }
        return all;
    }

    private int delayOf(int e) {
        int greatest = 0;
        for (int i = 0; i < xs.size(); i++) {
            if (works.get(i)) {
                greatest = Math.max(greatest, timeOf(i, focus[0], focus[1]));
            }
        }
        return greatest - timeOf(e, focus[0], focus[1]);
    }

    private static int comesIn(int lane, long n) {
        switch (lane) {
            case 0:
                return n > 127 ? 127 : n < -128 ? -128 : (int) n;
            case 1:
                return n > 32767 ? 32767 : n < -32768 ? -32768 : (int) n;
            default:
                return n > Integer.MAX_VALUE ? Integer.MAX_VALUE : n < Integer.MIN_VALUE ? Integer.MIN_VALUE : (int) n;
        }
    }

    private List<Integer> placesWithin(int within) {
        List<Integer> all = new ArrayList<>();
        for (int y = w; y <= w + p; y++) {
            for (int x = 0; x <= 50; x++) {
                boolean fits = true;
                for (Told t : tolds) {
                    fits = fits && Math.abs(timeOf(t.a(), x, y) + timeOf(t.b(), x, y) - t.tick()) <= within;
                }
                if (fits) {
                    all.add(1000 * x + y);
                }
            }
        }
        return all;
    }

    int body(int w, int p, int u, int v) {
        if (w < 0 || w > 20 || p < 1 || p > 30 || u < 1 || u > 8 || v < 1 || v > 8) {
            return -2;
        }
        for (Goal g : goals) {
            if (g.kind() != 2 && (g.y() < w || g.y() > w + p)) {
                return -3;
            }
        }
        this.w = w;
        this.p = p;
        this.u = u;
        this.v = v;
        focus = null;
        return w + p;
    }

    int element(int x) {
        if (x < 0 || x > 50) {
            return -2;
        }
        if (xs.size() == 8) {
            return -4;
        }
        xs.add(x);
        works.add(true);
        focus = null;
        return xs.size() - 1;
    }

    int lose(int e, boolean lost) {
        if (!isElement(e)) {
            return -1;
        }
        works.set(e, !lost);
        focus = null;
        return working();
    }

    int target(int kind, int x, int z, int y, int strength) {
        boolean fine = kind >= 0 && kind <= 2 && strength >= -1000 && strength <= 1000;
        fine = fine && (kind == 2 || inPlate(x, y));
        fine = fine && (kind != 1 || (z >= x && z <= 50));
        if (!fine) {
            return -2;
        }
        if (goals.size() == 8) {
            return -4;
        }
        goals.add(new Goal(kind, kind == 2 ? 0 : x, kind == 2 ? 50 : kind == 1 ? z : x, y, strength));
        return goals.size() - 1;
    }

    int drop() {
        if (goals.isEmpty()) {
            return -3;
        }
        goals.remove(goals.size() - 1);
        return goals.size();
    }

    int taken(int target, int kind, int what) {
        if (target < 0 || target >= goals.size()) {
            return -1;
        }
        if (kind < 0 || kind > 2 || what < 0 || what > 3 || (what == 3 && kind == 0)) {
            return -2;
        }
        Goal g = goals.get(target);
        if ((kind == 1 && g.kind() == 0) || (kind == 2 && g.kind() != 2)) {
            return found(-13);
        }
        return what == 0 ? g.strength() : what == 1 ? g.x() : what == 2 ? y(g) : g.z();
    }

    int time(int e, int x, int y) {
        return !isElement(e) ? -1 : !inPlate(x, y) ? -2 : timeOf(e, x, y);
    }

    int bend(int e, int x, int y) {
        return !isElement(e) ? -1 : !inPlate(x, y) ? -2 : bendOf(e, x, y, v);
    }

    int echoTime(int a, int b, int target) {
        if (!isElement(a) || !isElement(b) || target < 0 || target >= goals.size()) {
            return -1;
        }
        return echoTimeOf(a, b, goals.get(target));
    }

    int slowness(int a, int b, int ticks) {
        if (!isElement(a) || !isElement(b)) {
            return -1;
        }
        if (ticks < 0) {
            return -2;
        }
        int was = v;
        int best = 0;
        long bestGap = Long.MAX_VALUE;
        for (int slow = 8; slow >= 1; slow--) {
            v = slow;
            long gap = Math.abs((long) echoTimeOf(a, b, new Goal(2, 0, 50, 0, 0)) - ticks);
            if (gap <= bestGap) {
                bestGap = gap;
                best = slow;
            }
        }
        v = was;
        return best;
    }

    int echo(int a, int b, int tick) {
        return !isElement(a) || !isElement(b) ? -1 : echoOf(a, b, echoTimesOf(a, b), tick);
    }

    int gate(int a, int b, int from, int to, int least) {
        if (!isElement(a) || !isElement(b)) {
            return -1;
        }
        if (from < 0 || from > to || to > 4000 || least < 1) {
            return -2;
        }
        int[] times = echoTimesOf(a, b);
        for (int tick = from; tick <= to; tick++) {
            int echo = echoOf(a, b, times, tick);
            if (echo >= least || echo <= -least) {
                return tick;
            }
        }
        return -99999;
    }

    int focus(int x, int y) {
        if (!inPlate(x, y)) {
            return -2;
        }
        if (working() == 0) {
            return -3;
        }
        focus = new int[] {x, y};
        int greatest = 0;
        for (int e = 0; e < xs.size(); e++) {
            greatest = works.get(e) ? Math.max(greatest, timeOf(e, x, y)) : greatest;
        }
        return greatest;
    }

    int delay(int e) {
        return !isElement(e) ? -1 : focus == null ? -3 : !works.get(e) ? -99999 : delayOf(e);
    }

    int heard(int e, int tick) {
        return !isElement(e) ? -1 : focus == null ? -3 : heardOf(e, tick);
    }

    int sum(int tick) {
        if (focus == null) {
            return -3;
        }
        int all = 0;
        for (int e = 0; e < xs.size(); e++) {
            all += works.get(e) ? heardOf(e, (long) tick - delayOf(e)) : 0;
        }
        return all;
    }

    int board(int x, int y) {
        if (!inPlate(x, y)) {
            return -2;
        }
        int all = 0;
        for (int a = 0; a < xs.size(); a++) {
            for (int b = 0; b < xs.size(); b++) {
                all += echoOf(a, b, echoTimesOf(a, b), timeOf(a, x, y) + timeOf(b, x, y));
            }
        }
        return all;
    }

    int tell(int a, int b, int tick) {
        if (!isElement(a) || !isElement(b)) {
            return -1;
        }
        if (tick < 0 || tick > 4000) {
            return -2;
        }
        if (tolds.size() == 6) {
            return -4;
        }
        tolds.add(new Told(a, b, tick));
        return tolds.size();
    }

    int forget() {
        int were = tolds.size();
        tolds.clear();
        return were;
    }

    int places(int within) {
        return within < 0 || within > 100 ? -2 : placesWithin(within).size();
    }

    int place(int within, int i) {
        if (within < 0 || within > 100) {
            return -2;
        }
        List<Integer> all = placesWithin(within);
        return i < 0 || i >= all.size() ? -99999 : all.get(i);
    }

    int sheet(int s, int lane, int n) {
        if (!isSheet(s)) {
            return found(-12);
        }
        if (lane < 0 || lane > 2 || n > 64) {
            return -2;
        }
        if (n < 0) {
            return found(-14);
        }
        rows[s] = new int[n];
        lanes[s] = lane;
        return n;
    }

    int tear(int s) {
        if (!isSheet(s)) {
            return found(-12);
        }
        int was = rows[s] == null ? 1 : 0;
        rows[s] = null;
        return was;
    }

    int record(int s, int a, int b, int from) {
        if (!isSheet(s)) {
            return found(-12);
        }
        if (!isElement(a) || !isElement(b)) {
            return -1;
        }
        if (rows[s] == null) {
            return found(-11);
        }
        int[] times = echoTimesOf(a, b);
        for (int i = 0; i < rows[s].length; i++) {
            rows[s][i] = comesIn(lanes[s], echoOf(a, b, times, (long) from + i));
        }
        return rows[s].length;
    }

    int add(int from, int to, int shift) {
        if (!isSheet(from) || !isSheet(to)) {
            return found(-12);
        }
        if (rows[from] == null || rows[to] == null) {
            return found(-11);
        }
        int[] were = rows[from].clone();
        int count = 0;
        for (int j = 0; j < rows[to].length; j++) {
            long i = (long) j - shift;
            if (i >= 0 && i < were.length) {
                rows[to][j] = comesIn(lanes[to], (long) rows[to][j] + were[(int) i]);
                count++;
            }
        }
        return count;
    }

    int copy(int from, int i, int to, int j, int n) {
        if (!isSheet(from) || !isSheet(to)) {
            return found(-12);
        }
        if (rows[from] == null || rows[to] == null) {
            return found(-11);
        }
        if (lanes[from] != lanes[to]) {
            return found(-13);
        }
        if (n < 0) {
            return found(-14);
        }
        if (i < 0 || j < 0 || (long) i + n > rows[from].length || (long) j + n > rows[to].length) {
            return found(-12);
        }
        int[] were = rows[from].clone();
        for (int k = 0; k < n; k++) {
            rows[to][j + k] = were[i + k];
        }
        return n;
    }

    int at(int s, int i) {
        if (!isSheet(s)) {
            return found(-12);
        }
        if (rows[s] == null) {
            return found(-11);
        }
        return i < 0 || i >= rows[s].length ? found(-12) : rows[s][i];
    }

    int peak(int s) {
        if (!isSheet(s)) {
            return found(-12);
        }
        if (rows[s] == null) {
            return found(-11);
        }
        int best = -99999;
        for (int i = rows[s].length - 1; i >= 0; i--) {
            if (best < 0 || Math.abs((long) rows[s][i]) >= Math.abs((long) rows[s][best])) {
                best = i;
            }
        }
        return best;
    }

    int total(int what) {
        int there = 0;
        for (int[] row : rows) {
            there += row == null ? 0 : 1;
        }
        int[] all = {xs.size(), working(), goals.size(), tolds.size(), findings, there, w + p, focus == null ? 0 : 1};
        return what < 0 || what > 7 ? -2 : all[what];
    }
}

import java.util.Random;

/** Runs of 512 calls, always the same ones, on EchoRow and on PlainRow: every answer must be alike. */
public final class ModelTest {
    private static final int RUNS = 120, CALLS = 512, SHOWN = 20;
    private static final int[] ODD = {
        Integer.MIN_VALUE, Integer.MIN_VALUE + 1, -4001, -1001, -65, -11, -2, -1, 0, 1, 2, 3, 8, 9, 20, 21, 30, 31, 49, 50, 51,
        63, 64, 65, 100, 101, 1000, 1001, 4000, 4001, 46341, Integer.MAX_VALUE - 63, Integer.MAX_VALUE - 1, Integer.MAX_VALUE
    };

    private final Random random;
    private final EchoRow row = new EchoRow();
    private final PlainRow plain = new PlainRow();
    private final int oddity;
    private final int wildBodies;
    private int wedge = 0, floor = 30, lastTime = 0;
    private String call = "";

    private ModelTest(int seed) {
        random = new Random(seed);
        oddity = 4 + random.nextInt(60);
        wildBodies = 1 + random.nextInt(6);
    }

    public static void main(String[] args) {
        int wrong = 0;
        for (int seed = 1; seed <= RUNS && wrong < SHOWN; seed++) {
            ModelTest test = new ModelTest(seed);
            boolean right = true;
            for (int i = 0; i < CALLS && right; i++) {
                right = test.one(random(test, i));
                if (!right) {
                    wrong++;
                    System.out.println("seed " + seed + ", call " + i + ": " + test.call);
                }
            }
        }
        System.out.println(wrong == 0 ? "EchoRow answers as PlainRow does" : wrong + " runs are not as due");
        if (wrong != 0) {
            System.exit(1);
        }
    }

    /** The first calls build something to look at; later ones are of any kind. */
    private static int random(ModelTest test, int i) {
        if (i < 10) {
            return new int[] {0, 1, 1, 3, 3, 19, 19, 12, 15, 1}[i];
        }
        return test.random.nextInt(30);
    }

    private int in(int least, int greatest) {
        if (random.nextInt(oddity) == 0) {
            return ODD[random.nextInt(ODD.length)];
        }
        return least + random.nextInt(greatest - least + 1);
    }

    private int element() {
        return in(0, Math.max(0, plain.total(0) - 1));
    }

    private int tick() {
        return random.nextBoolean() ? in(0, 600) : lastTime + random.nextInt(3) - 1;
    }

    private boolean due(String name, int got, int want, int... with) {
        StringBuilder text = new StringBuilder(name).append('(');
        for (int i = 0; i < with.length; i++) {
            text.append(i == 0 ? "" : ", ").append(with[i]);
        }
        call = text.append(") answered ").append(got).append(", due is ").append(want).toString();
        return got == want;
    }

    private boolean one(int kind) {
        if (kind < 7) {
            return bodyCall(kind);
        }
        if (kind < 18) {
            return echoCall(kind);
        }
        return kind < 22 ? placeCall(kind) : sheetCall(kind);
    }

    private boolean bodyCall(int kind) {
        int e = element();
        int x = in(0, 50);
        int y = in(wedge, floor);
        switch (kind) {
            case 0: {
                if (random.nextInt(wildBodies) != 0) {
                    return due("total", row.total(6), plain.total(6), 6);
                }
                int w = in(0, 20), p = in(1, 30), u = in(1, 8), v = in(1, 8);
                int want = plain.body(w, p, u, v);
                if (want > 0) {
                    wedge = w;
                    floor = want;
                }
                return due("body", row.body(w, p, u, v), want, w, p, u, v);
            }
            case 1:
                return due("element", row.element(x), plain.element(x), x);
            case 2: {
                boolean lost = random.nextInt(3) == 0;
                return due("lose", row.lose(e, lost), plain.lose(e, lost), e, lost ? 1 : 0);
            }
            case 3: {
                int k = in(0, 2), z = random.nextInt(4) == 0 ? in(0, 50) : in(Math.min(50, Math.max(0, x)), 50);
                int s = in(-1000, 1000);
                return due("target", row.target(k, x, z, y, s), plain.target(k, x, z, y, s), k, x, z, y, s);
            }
            case 4:
                return due("drop", row.drop(), plain.drop());
            case 5: {
                int t = in(0, 7), k = in(0, 2), what = in(0, 3);
                return due("taken", row.taken(t, k, what), plain.taken(t, k, what), t, k, what);
            }
            default: {
                int got = row.time(e, x, y);
                lastTime = 2 * Math.max(0, got);
                return due("time", got, plain.time(e, x, y), e, x, y);
            }
        }
    }

    private boolean echoCall(int kind) {
        int a = element();
        int b = element();
        int x = in(0, 50);
        int y = in(wedge, floor);
        int tick = tick();
        switch (kind) {
            case 7:
                return due("bend", row.bend(a, x, y), plain.bend(a, x, y), a, x, y);
            case 8:
            case 9: {
                int t = in(0, Math.max(0, plain.total(2) - 1));
                int got = row.echoTime(a, b, t);
                lastTime = got < 0 ? lastTime : got;
                return due("echoTime", got, plain.echoTime(a, b, t), a, b, t);
            }
            case 10:
                return due("slowness", row.slowness(a, b, tick), plain.slowness(a, b, tick), a, b, tick);
            case 11:
                return due("echo", row.echo(a, b, tick), plain.echo(a, b, tick), a, b, tick);
            case 12: {
                int from = in(0, 300), to = in(Math.max(0, Math.min(4000, from)), 4000), least = in(1, 1500);
                return due("gate", row.gate(a, b, from, to, least), plain.gate(a, b, from, to, least), a, b, from, to, least);
            }
            case 13: {
                int got = row.focus(x, y);
                lastTime = 2 * Math.max(0, got);
                return due("focus", got, plain.focus(x, y), x, y);
            }
            case 14:
                return due("delay", row.delay(a), plain.delay(a), a);
            case 15:
                return due("heard", row.heard(a, tick), plain.heard(a, tick), a, tick);
            case 16:
                return due("sum", row.sum(tick), plain.sum(tick), tick);
            default: {
                int t = in(0, 7);
                boolean on = random.nextBoolean() && plain.total(2) > t && t >= 0;
                int px = on ? row.taken(t, 0, 1) : x;
                int py = on ? row.taken(t, 0, 2) : y;
                return due("board", row.board(px, py), plain.board(px, py), px, py);
            }
        }
    }

    private boolean placeCall(int kind) {
        int a = element();
        int b = element();
        int within = in(0, random.nextBoolean() ? 5 : 100);
        switch (kind) {
            case 18:
                return random.nextInt(4) != 0
                    ? due("total", row.total(3), plain.total(3), 3)
                    : due("forget", row.forget(), plain.forget());
            case 19: {
                int tick = tick();
                return due("tell", row.tell(a, b, tick), plain.tell(a, b, tick), a, b, tick);
            }
            case 20:
                return due("places", row.places(within), plain.places(within), within);
            default: {
                int i = in(0, random.nextBoolean() ? 3 : 1600);
                return due("place", row.place(within, i), plain.place(within, i), within, i);
            }
        }
    }

    private boolean sheetCall(int kind) {
        int s = in(0, 5);
        int t = random.nextInt(3) == 0 ? s : in(0, 5);
        switch (kind) {
            case 22: {
                int lane = in(0, 2), n = in(0, 64);
                return due("sheet", row.sheet(s, lane, n), plain.sheet(s, lane, n), s, lane, n);
            }
            case 23:
                return random.nextInt(3) != 0
                    ? due("total", row.total(5), plain.total(5), 5)
                    : due("tear", row.tear(s), plain.tear(s), s);
            case 24: {
                int a = element(), b = element(), from = tick() - random.nextInt(64);
                return due("record", row.record(s, a, b, from), plain.record(s, a, b, from), s, a, b, from);
            }
            case 25: {
                int shift = in(-20, 20);
                return due("add", row.add(s, t, shift), plain.add(s, t, shift), s, t, shift);
            }
            case 26: {
                int i = in(0, 20), j = in(0, 20), n = in(0, 20);
                return due("copy", row.copy(s, i, t, j, n), plain.copy(s, i, t, j, n), s, i, t, j, n);
            }
            case 27: {
                int i = in(0, 63);
                return due("at", row.at(s, i), plain.at(s, i), s, i);
            }
            case 28:
                return due("peak", row.peak(s), plain.peak(s), s);
            default: {
                int what = in(0, 7);
                return due("total", row.total(what), plain.total(what), what);
            }
        }
    }
}

/** For each promise of the document: ordinary calls, its edges, and what it refuses or finds, in order. */
public final class PromiseTest {
    private static final int LEAST = Integer.MIN_VALUE, MOST = Integer.MAX_VALUE, NONE = -99999;
    private static final int UNKNOWN = -1, BAD = -2, STATE = -3, FULL = -4;
    private static final int NULL = -11, PLACE = -12, CAST = -13, SIZE = -14;

    private static int wrong = 0;
    private static int promise = 0;

    private static void due(String call, int got, int want) {
        if (got != want) {
            wrong++;
            System.out.println("promise " + promise + ": " + call + " answered " + got + ", due is " + want);
        }
    }

    public static void main(String[] args) {
        aNewObject();
        body();
        bodyAndTargets();
        element();
        lose();
        target();
        drop();
        taken();
        time();
        bend();
        echoTime();
        slowness();
        echo();
        gate();
        focus();
        focusEnds();
        delay();
        heard();
        sum();
        board();
        tell();
        forget();
        places();
        place();
        sheet();
        tear();
        record();
        add();
        addNearest();
        copy();
        copyOrder();
        at();
        peak();
        total();
        refusedChangesNothing();
        System.out.println(wrong == 0 ? "all promises hold" : wrong + " answers are not as due");
        if (wrong != 0) {
            System.exit(1);
        }
    }

    /** A wedge of 10, a plate of 20; elements at 0, 20, 50; a point, a bar and a wall. */
    private static EchoRow scene() {
        EchoRow x = new EchoRow();
        x.body(10, 20, 2, 5);
        x.element(0);
        x.element(20);
        x.element(50);
        x.target(0, 25, 0, 20, 100);
        x.target(1, 10, 30, 28, -60);
        x.target(2, 0, 0, 0, 500);
        return x;
    }

    /** Two elements at one place, 10 above a wall: every echo comes at 20. */
    private static EchoRow twins() {
        EchoRow x = new EchoRow();
        x.body(0, 10, 1, 1);
        x.element(25);
        x.element(25);
        x.target(2, 0, 0, 0, 7);
        return x;
    }

    /** Sheet 0 of bytes, 1 of shorts, 2 of ints, four places each, the third of them 1800 or what is nearest to it. */
    private static EchoRow threeSheets() {
        EchoRow x = new EchoRow();
        x.element(25);
        x.target(0, 25, 0, 10, 900);
        x.target(0, 25, 0, 10, 900);
        for (int lane = 0; lane <= 2; lane++) {
            x.sheet(lane, lane, 4);
            x.record(lane, 0, 0, 18);
        }
        return x;
    }

    private static void row(EchoRow x, int sheet, int... want) {
        for (int i = 0; i < want.length; i++) {
            due("at(" + sheet + ", " + i + ")", x.at(sheet, i), want[i]);
        }
    }

    private static void aNewObject() {
        promise = 1;
        EchoRow x = new EchoRow();
        int[] want = {0, 0, 0, 0, 0, 0, 30, 0};
        for (int what = 0; what < want.length; what++) {
            due("total(" + what + ")", x.total(what), want[what]);
        }
        due("places(0)", x.places(0), 51 * 31);
        due("place(0, 0)", x.place(0, 0), 0);
        for (int sheet = 0; sheet < 6; sheet++) {
            due("peak", x.peak(sheet), NULL);
        }
        due("drop()", x.drop(), STATE);
        due("delay(0)", x.delay(0), UNKNOWN);
        due("sum(0)", x.sum(0), STATE);
        x.element(0);
        due("time(0, 3, 4)", x.time(0, 3, 4), 5);
        due("time(0, 0, 30)", x.time(0, 0, 30), 30);
        due("delay(0)", x.delay(0), STATE);
        x.element(25);
        due("bend(1, 0, 1)", x.bend(1, 0, 1), 1);
        EchoRow other = new EchoRow();
        due("total(0) of another", other.total(0), 0);
    }

    private static void body() {
        promise = 2;
        EchoRow x = new EchoRow();
        due("body(0, 1, 1, 1)", x.body(0, 1, 1, 1), 1);
        due("body(20, 30, 8, 8)", x.body(20, 30, 8, 8), 50);
        due("total(6)", x.total(6), 50);
        int[][] bad = {
            {-1, 5, 1, 1}, {21, 5, 1, 1}, {5, 0, 1, 1}, {5, 31, 1, 1}, {5, 5, 0, 1}, {5, 5, 9, 1}, {5, 5, 1, 0}, {5, 5, 1, 9},
            {LEAST, LEAST, LEAST, LEAST}, {MOST, MOST, MOST, MOST}, {MOST, 1, 1, 1}, {0, MOST, 1, 1}
        };
        for (int[] b : bad) {
            due("body(" + b[0] + ", " + b[1] + ", " + b[2] + ", " + b[3] + ")", x.body(b[0], b[1], b[2], b[3]), BAD);
        }
        due("total(6)", x.total(6), 50);
        x.element(0);
        due("time(0, 0, 50)", x.time(0, 0, 50), 8 * 50);
        x.body(10, 10, 1, 2);
        due("time(0, 0, 20)", x.time(0, 0, 20), 10 + 20);
        x.body(10, 10, 2, 1);
        due("time(0, 0, 15)", x.time(0, 0, 15), 20 + 5);
        x.body(0, 10, 8, 1);
        due("time(0, 50, 0)", x.time(0, 50, 0), 50);
        x.body(0, 10, 8, 3);
        due("time(0, 50, 0)", x.time(0, 50, 0), 150);
    }

    private static void bodyAndTargets() {
        EchoRow x = new EchoRow();
        x.element(25);
        x.target(0, 25, 0, 10, 5);
        x.target(1, 20, 30, 20, 6);
        x.target(2, 0, 0, 0, 7);
        due("echoTime(0, 0, 2)", x.echoTime(0, 0, 2), 60);
        due("body(11, 20, 1, 1): the point", x.body(11, 20, 1, 1), STATE);
        due("body(0, 19, 1, 1): the bar", x.body(0, 19, 1, 1), STATE);
        due("body(11, 20, 9, 1): bad first", x.body(11, 20, 9, 1), BAD);
        due("total(6)", x.total(6), 30);
        due("body(10, 10, 1, 3): both on the edge", x.body(10, 10, 1, 3), 20);
        due("taken(2, 2, 2): the wall", x.taken(2, 2, 2), 20);
        due("echoTime(0, 0, 0)", x.echoTime(0, 0, 0), 20);
        due("echoTime(0, 0, 1)", x.echoTime(0, 0, 1), 80);
        due("echoTime(0, 0, 2)", x.echoTime(0, 0, 2), 80);
        due("echo(0, 0, 80)", x.echo(0, 0, 80), 13);
        x.drop();
        x.drop();
        due("body(0, 12, 1, 1): the bar is gone", x.body(0, 12, 1, 1), 12);
        due("echo(0, 0, 20)", x.echo(0, 0, 20), 5);
    }

    private static void element() {
        promise = 3;
        EchoRow x = new EchoRow();
        due("element(-1)", x.element(-1), BAD);
        due("element(51)", x.element(51), BAD);
        due("element(LEAST)", x.element(LEAST), BAD);
        due("element(MOST)", x.element(MOST), BAD);
        due("total(0)", x.total(0), 0);
        int[] xs = {0, 50, 25, 25, 1, 2, 3, 4};
        for (int i = 0; i < 8; i++) {
            due("element(" + xs[i] + ")", x.element(xs[i]), i);
        }
        due("element(5)", x.element(5), FULL);
        due("element(51)", x.element(51), BAD);
        due("total(0)", x.total(0), 8);
        due("total(1)", x.total(1), 8);
        due("time(1, 50, 30)", x.time(1, 50, 30), 30);
        due("time(7, 4, 30)", x.time(7, 4, 30), 30);
    }

    private static void lose() {
        promise = 4;
        EchoRow x = twins();
        due("lose(2, true)", x.lose(2, true), UNKNOWN);
        due("lose(-1, true)", x.lose(-1, true), UNKNOWN);
        due("lose(8, true)", x.lose(8, true), UNKNOWN);
        due("lose(MOST, true)", x.lose(MOST, true), UNKNOWN);
        due("lose(LEAST, false)", x.lose(LEAST, false), UNKNOWN);
        due("lose(0, false)", x.lose(0, false), 2);
        due("lose(0, true)", x.lose(0, true), 1);
        due("lose(0, true)", x.lose(0, true), 1);
        due("echo(0, 1, 20)", x.echo(0, 1, 20), 0);
        due("echo(1, 0, 20)", x.echo(1, 0, 20), 0);
        due("echo(1, 1, 20)", x.echo(1, 1, 20), 7);
        due("total(0)", x.total(0), 2);
        due("total(1)", x.total(1), 1);
        due("lose(1, true)", x.lose(1, true), 0);
        due("lose(0, false)", x.lose(0, false), 1);
        due("echo(0, 0, 20)", x.echo(0, 0, 20), 7);
    }

    private static void target() {
        promise = 5;
        EchoRow x = new EchoRow();
        x.body(10, 20, 1, 1);
        int[][] bad = {
            {-1, 1, 1, 15, 0}, {3, 1, 1, 15, 0}, {MOST, 1, 1, 15, 0}, {0, -1, 0, 15, 0}, {0, 51, 0, 15, 0}, {0, 1, 0, 9, 0},
            {0, 1, 0, 31, 0}, {0, 1, 0, 15, 1001}, {0, 1, 0, 15, -1001}, {0, 1, 0, 15, LEAST}, {1, -1, 5, 15, 0},
            {1, 5, 4, 15, 0}, {1, 5, 51, 15, 0}, {1, 51, 51, 15, 0}, {1, 5, 6, 9, 0}, {1, 5, 6, 31, 0}, {1, 5, 6, 15, 1001},
            {2, 0, 0, 0, 1001}, {2, 0, 0, 0, -1001}, {0, LEAST, 0, MOST, 0}, {0, 0, 0, LEAST, 0}, {1, 0, LEAST, 15, 0}
        };
        for (int[] b : bad) {
            String call = "target(" + b[0] + ", " + b[1] + ", " + b[2] + ", " + b[3] + ", " + b[4] + ")";
            due(call, x.target(b[0], b[1], b[2], b[3], b[4]), BAD);
        }
        due("total(2)", x.total(2), 0);
        due("a point, z not looked at", x.target(0, 50, LEAST, 10, 1000), 0);
        due("a point at the floor", x.target(0, 0, MOST, 30, -1000), 1);
        due("a bar of one place", x.target(1, 7, 7, 10, 0), 2);
        due("a bar of all", x.target(1, 0, 50, 30, 1), 3);
        due("a wall, x, z, y not looked at", x.target(2, LEAST, MOST, -5, 1000), 4);
        for (int i = 5; i < 8; i++) {
            due("target " + i, x.target(0, 5, 5, 20, i), i);
        }
        due("the ninth", x.target(0, 5, 5, 20, 1), FULL);
        due("the ninth, a wall", x.target(2, 0, 0, 0, 1), FULL);
        due("bad first", x.target(0, 5, 5, 31, 1), BAD);
        due("total(2)", x.total(2), 8);
        due("taken(0, 0, 1)", x.taken(0, 0, 1), 50);
        due("taken(3, 1, 3)", x.taken(3, 1, 3), 50);
    }

    private static void drop() {
        promise = 6;
        EchoRow x = scene();
        due("drop()", x.drop(), 2);
        due("echoTime(0, 0, 2)", x.echoTime(0, 0, 2), UNKNOWN);
        due("echoTime(1, 1, 1)", x.echoTime(1, 1, 1), 220);
        due("target anew", x.target(0, 20, 0, 30, 9), 2);
        due("taken(2, 0, 0)", x.taken(2, 0, 0), 9);
        due("echoTime(1, 1, 2)", x.echoTime(1, 1, 2), 240);
        due("drop()", x.drop(), 2);
        due("drop()", x.drop(), 1);
        due("drop()", x.drop(), 0);
        due("drop()", x.drop(), STATE);
        due("total(2)", x.total(2), 0);
        due("echo(1, 1, 220)", x.echo(1, 1, 220), 0);
    }

    private static void taken() {
        promise = 7;
        EchoRow x = scene();
        int[][] want = {
            {0, 0, 0, 100}, {0, 0, 1, 25}, {0, 0, 2, 20}, {0, 0, 3, BAD}, {0, 1, 3, CAST}, {0, 1, 0, CAST}, {0, 2, 0, CAST},
            {1, 0, 0, -60}, {1, 0, 1, 10}, {1, 0, 2, 28}, {1, 0, 3, BAD}, {1, 1, 0, -60}, {1, 1, 1, 10}, {1, 1, 2, 28},
            {1, 1, 3, 30}, {1, 2, 3, CAST}, {2, 0, 0, 500}, {2, 0, 1, 0}, {2, 0, 2, 30}, {2, 1, 3, 50}, {2, 2, 0, 500},
            {2, 2, 1, 0}, {2, 2, 2, 30}, {2, 2, 3, 50}, {3, 0, 0, UNKNOWN}, {-1, 0, 0, UNKNOWN}, {8, 9, 9, UNKNOWN},
            {MOST, 0, 0, UNKNOWN}, {LEAST, 0, 0, UNKNOWN}, {0, 3, 0, BAD}, {0, -1, 0, BAD}, {0, 2, 4, BAD}, {0, 1, -1, BAD},
            {2, 2, 4, BAD}, {2, MOST, 0, BAD}, {2, 0, LEAST, BAD}
        };
        int casts = 0;
        for (int[] t : want) {
            due("taken(" + t[0] + ", " + t[1] + ", " + t[2] + ")", x.taken(t[0], t[1], t[2]), t[3]);
            casts += t[3] == CAST ? 1 : 0;
        }
        due("total(4)", x.total(4), casts);
    }

    private static void time() {
        promise = 8;
        EchoRow x = scene();
        due("time(0, 25, 20)", x.time(0, 25, 20), 99);
        due("time(1, 20, 30)", x.time(1, 20, 30), 120);
        due("time(1, 20, 10): at the wedge's end", x.time(1, 20, 10), 20);
        due("time(3, 25, 20)", x.time(3, 25, 20), UNKNOWN);
        due("time(-1, 25, 20)", x.time(-1, 25, 20), UNKNOWN);
        due("time(8, 99, 99)", x.time(8, 99, 99), UNKNOWN);
        due("time(0, -1, 20)", x.time(0, -1, 20), BAD);
        due("time(0, 51, 20)", x.time(0, 51, 20), BAD);
        due("time(0, 25, 9)", x.time(0, 25, 9), BAD);
        due("time(0, 25, 31)", x.time(0, 25, 31), BAD);
        due("time(0, LEAST, MOST)", x.time(0, LEAST, MOST), BAD);
        due("time(0, 0, LEAST)", x.time(0, 0, LEAST), BAD);
        due("lose(0, true)", x.lose(0, true), 2);
        due("time(0, 25, 20) when lost", x.time(0, 25, 20), 99);
        EchoRow y = new EchoRow();
        y.element(0);
        due("each leg is rounded down", y.time(0, 50, 30), 58);
        due("along the top", y.time(0, 50, 0), 50);
        y.body(20, 30, 8, 8);
        // By b = 20: 226 (of 8 times 28.28) and 339 (of 8 times 42.43).
        due("slowest and farthest", y.time(0, 50, 50), 226 + 339);
    }

    private static void bend() {
        promise = 9;
        EchoRow x = scene();
        due("bend(0, 25, 20)", x.bend(0, 25, 20), 20);
        due("bend(2, 25, 20)", x.bend(2, 25, 20), 29);
        due("bend(3, 25, 20)", x.bend(3, 25, 20), UNKNOWN);
        due("bend(MOST, 99, 20)", x.bend(MOST, 99, 20), UNKNOWN);
        due("bend(0, 51, 20)", x.bend(0, 51, 20), BAD);
        due("bend(0, -1, 20)", x.bend(0, -1, 20), BAD);
        due("bend(0, 25, 9)", x.bend(0, 25, 9), BAD);
        due("bend(0, 25, 31)", x.bend(0, 25, 31), BAD);
        EchoRow y = new EchoRow();
        y.element(25);
        y.element(3);
        y.body(20, 20, 1, 1);
        // The root of 400 + 36 is rounded down to 20, too: the way need not be straight to take 40.
        due("bend(0, 25, 40)", y.bend(0, 25, 40), 19);
        due("bend(1, 3, 40)", y.bend(1, 3, 40), 0);
        y.lose(0, true);
        due("bend(0, 25, 40) when lost", y.bend(0, 25, 40), 19);
        y.body(0, 1, 1, 1);
        y.element(50);
        due("where it is", y.bend(0, 25, 0), 25);
        due("at the last x", y.bend(2, 50, 0), 50);
    }

    private static void echoTime() {
        promise = 10;
        EchoRow x = scene();
        due("echoTime(0, 2, 0)", x.echoTime(0, 2, 0), 198);
        due("echoTime(2, 0, 0)", x.echoTime(2, 0, 0), 198);
        due("echoTime(1, 1, 0)", x.echoTime(1, 1, 0), 140);
        due("echoTime(1, 1, 1)", x.echoTime(1, 1, 1), 2 * (20 + 90));
        due("echoTime(0, 2, 2)", x.echoTime(0, 2, 2), 291);
        int[][] unknown = {{3, 0, 0}, {0, 3, 0}, {0, 0, 3}, {-1, 0, 0}, {0, -1, 0}, {0, 0, -1}, {MOST, LEAST, 8}, {8, 0, 0}};
        for (int[] u : unknown) {
            due("echoTime(" + u[0] + ", " + u[1] + ", " + u[2] + ")", x.echoTime(u[0], u[1], u[2]), UNKNOWN);
        }
        x.lose(0, true);
        due("echoTime(0, 2, 2) when lost", x.echoTime(0, 2, 2), 291);
        x.body(0, 30, 1, 1);
        due("echoTime(1, 1, 1) in another body", x.echoTime(1, 1, 1), 56);
        EchoRow y = new EchoRow();
        y.element(0);
        y.element(50);
        y.target(1, 0, 10, 0, 1);
        y.target(1, 40, 50, 30, 1);
        due("a bar's nearest place", y.echoTime(0, 0, 0), 0);
        due("both to one place of it", y.echoTime(0, 1, 0), 50);
        due("a bar at the far end", y.echoTime(1, 1, 1), 60);
        due("a bar from afar", y.echoTime(0, 0, 1), 100);
    }

    private static void slowness() {
        promise = 11;
        EchoRow x = twins();
        for (int v = 1; v <= 8; v++) {
            due("slowness(0, 1, " + 20 * v + ")", x.slowness(0, 1, 20 * v), v);
        }
        due("of like near ones the least", x.slowness(0, 1, 50), 2);
        due("nearer above", x.slowness(0, 1, 51), 3);
        due("slowness(0, 0, 0)", x.slowness(0, 0, 0), 1);
        due("slowness(0, 0, MOST)", x.slowness(0, 0, MOST), 8);
        due("slowness(0, 0, -1)", x.slowness(0, 0, -1), BAD);
        due("slowness(0, 0, LEAST)", x.slowness(0, 0, LEAST), BAD);
        due("slowness(2, 0, -1)", x.slowness(2, 0, -1), UNKNOWN);
        due("slowness(0, 2, 5)", x.slowness(0, 2, 5), UNKNOWN);
        due("slowness(-1, 0, 5)", x.slowness(-1, 0, 5), UNKNOWN);
        due("what is there is kept", x.time(0, 25, 10), 10);
        x.drop();
        x.lose(0, true);
        due("without a wall, lost", x.slowness(0, 1, 100), 5);
        x.body(10, 10, 8, 1);
        due("through a wedge", x.slowness(0, 1, 160 + 60), 3);
        EchoRow y = new EchoRow();
        y.element(0);
        y.element(50);
        y.body(0, 1, 8, 1);
        due("a wall begins at 0", y.slowness(0, 0, 10), 5);
        due("and ends at 50", y.slowness(1, 1, 10), 5);
        due("scene", scene().slowness(0, 2, 330), 6);
        due("scene, its own", scene().slowness(0, 2, 291), 5);
    }

    private static void echo() {
        promise = 12;
        EchoRow x = scene();
        due("echo(0, 2, 198)", x.echo(0, 2, 198), 100);
        due("echo(2, 0, 198)", x.echo(2, 0, 198), 100);
        due("echo(1, 1, 220)", x.echo(1, 1, 220), -60);
        due("echo(1, 1, 240)", x.echo(1, 1, 240), 500);
        due("echo(1, 1, 239)", x.echo(1, 1, 239), 0);
        due("echo(1, 1, LEAST)", x.echo(1, 1, LEAST), 0);
        due("echo(1, 1, MOST)", x.echo(1, 1, MOST), 0);
        due("echo(1, 1, -1)", x.echo(1, 1, -1), 0);
        due("echo(3, 1, 240)", x.echo(3, 1, 240), UNKNOWN);
        due("echo(1, 3, 240)", x.echo(1, 3, 240), UNKNOWN);
        due("echo(-1, 1, 240)", x.echo(-1, 1, 240), UNKNOWN);
        x.target(2, 0, 0, 0, 250);
        due("two at one tick", x.echo(1, 1, 240), 750);
        x.lose(1, true);
        due("lost", x.echo(1, 1, 240), 0);
        due("one lost", x.echo(1, 0, x.echoTime(1, 0, 2)), 0);
        x.lose(1, false);
        due("works again", x.echo(1, 1, 240), 750);
        due("echo at 0", touching().echo(0, 0, 0), 3);
    }

    /** A point where an element is. */
    private static EchoRow touching() {
        EchoRow x = new EchoRow();
        x.element(4);
        x.target(0, 4, 0, 0, 3);
        return x;
    }

    private static void gate() {
        promise = 13;
        EchoRow x = scene();
        int[][] want = {
            {1, 1, 0, 4000, 1, 140}, {1, 1, 140, 140, 100, 140}, {1, 1, 140, 140, 101, NONE}, {1, 1, 141, 4000, 60, 220},
            {1, 1, 141, 4000, 61, 240}, {1, 1, 141, 219, 1, NONE}, {1, 1, 0, 4000, 501, NONE}, {1, 1, 0, 4000, 500, 240},
            {1, 1, 240, 4000, 1, 240}, {1, 1, 241, 4000, 1, NONE}, {1, 1, 0, 139, 1, NONE}, {1, 1, 0, 4000, MOST, NONE},
            {0, 2, 0, 4000, 100, 198}, {1, 1, -1, 4000, 1, BAD}, {1, 1, 0, 4001, 1, BAD}, {1, 1, 5, 4, 1, BAD},
            {1, 1, 0, 4000, 0, BAD}, {1, 1, 0, 4000, LEAST, BAD}, {1, 1, LEAST, MOST, 1, BAD}, {1, 1, 4000, 4000, 1, NONE},
            {3, 1, 5, 4, 0, UNKNOWN}, {1, 3, 0, 9, 1, UNKNOWN}, {-1, 1, 0, 9, 1, UNKNOWN}, {1, LEAST, 0, 9, 1, UNKNOWN}
        };
        for (int[] g : want) {
            String call = "gate(" + g[0] + ", " + g[1] + ", " + g[2] + ", " + g[3] + ", " + g[4] + ")";
            due(call, x.gate(g[0], g[1], g[2], g[3], g[4]), g[5]);
        }
        x.target(2, 0, 0, 0, -500);
        due("two that make up 0", x.gate(1, 1, 221, 4000, 1), NONE);
        x.drop();
        x.target(0, 20, 0, 20, -99);
        due("a later target, of the same tick", x.gate(1, 1, 0, 4000, 2), 220);
        due("the least that passes", x.gate(1, 1, 0, 4000, 1), 140);
        x.lose(1, true);
        due("lost", x.gate(1, 1, 0, 4000, 1), NONE);
        due("from 0 to 0", touching().gate(0, 0, 0, 0, 3), 0);
        due("without targets", new EchoRow().gate(0, 0, 0, 0, 3), UNKNOWN);
    }

    private static void focus() {
        promise = 14;
        EchoRow x = scene();
        due("focus(25, 20)", x.focus(25, 20), 99);
        due("total(7)", x.total(7), 1);
        due("focus(25, 31)", x.focus(25, 31), BAD);
        due("focus(25, 9)", x.focus(25, 9), BAD);
        due("focus(-1, 20)", x.focus(-1, 20), BAD);
        due("focus(51, 20)", x.focus(51, 20), BAD);
        due("focus(LEAST, MOST)", x.focus(LEAST, MOST), BAD);
        due("the focus stays", x.delay(1), 29);
        due("focus(20, 30)", x.focus(20, 30), Math.max(x.time(0, 20, 30), x.time(2, 20, 30)));
        due("another place", x.delay(1), x.time(2, 20, 30) - 120);
        x.lose(2, true);
        due("without the farthest", x.focus(20, 30), x.time(0, 20, 30));
        x.lose(0, true);
        due("the nearest alone", x.focus(20, 30), 120);
        x.lose(1, true);
        due("none works", x.focus(20, 30), STATE);
        due("bad first", x.focus(20, 31), BAD);
        due("no elements", new EchoRow().focus(0, 0), STATE);
        due("where the only one is", touching().focus(4, 0), 0);
        due("total(7)", x.total(7), 0);
    }

    private static void focusEnds() {
        EchoRow x = scene();
        x.focus(25, 20);
        due("an element", x.element(3), 3);
        due("delay(0)", x.delay(0), STATE);
        x.focus(25, 20);
        x.body(10, 20, 2, 4);
        due("delay(0)", x.delay(0), STATE);
        x.focus(25, 20);
        x.lose(1, true);
        due("delay(0)", x.delay(0), STATE);
        x.focus(25, 20);
        x.lose(1, false);
        due("delay(0)", x.delay(0), STATE);
        x.focus(25, 20);
        x.target(2, 0, 0, 0, 3);
        x.drop();
        x.tell(0, 1, 5);
        x.forget();
        x.sheet(0, 0, 5);
        x.record(0, 0, 0, 100);
        due("what ends nothing", x.total(7), 1);
        x.body(10, 20, 2, 9);
        x.body(20, 1, 1, 1);
        x.element(51);
        x.lose(9, true);
        x.lose(-1, false);
        due("what is refused", x.total(7), 1);
    }

    private static void delay() {
        promise = 15;
        EchoRow x = scene();
        due("without a focus", x.delay(0), STATE);
        due("unknown first", x.delay(3), UNKNOWN);
        x.focus(25, 20);
        due("delay(0)", x.delay(0), 0);
        due("delay(1)", x.delay(1), 29);
        due("delay(2)", x.delay(2), 0);
        due("delay(3)", x.delay(3), UNKNOWN);
        due("delay(-1)", x.delay(-1), UNKNOWN);
        due("delay(MOST)", x.delay(MOST), UNKNOWN);
        x.lose(0, true);
        due("lost, without a focus", x.delay(0), STATE);
        x.lose(2, true);
        due("focus(25, 20)", x.focus(25, 20), 70);
        due("lost", x.delay(0), NONE);
        due("alone", x.delay(1), 0);
    }

    private static void heard() {
        promise = 16;
        EchoRow x = scene();
        due("without a focus", x.heard(0, 99), STATE);
        due("unknown first", x.heard(3, 99), UNKNOWN);
        x.focus(25, 20);
        // All that is sent is at the place at 99, and takes each hearer's TIME to come.
        due("heard(0, 198)", x.heard(0, 198), 300);
        due("heard(1, 169)", x.heard(1, 169), 300);
        due("heard(1, 170)", x.heard(1, 170), 0);
        due("by its own delay", x.heard(1, 240 + 29), 500);
        due("heard(-1, 0)", x.heard(-1, 0), UNKNOWN);
        due("heard(0, LEAST)", x.heard(0, LEAST), 0);
        due("heard(0, MOST)", x.heard(0, MOST), 0);
        x.lose(1, true);
        x.focus(25, 20);
        due("what is lost hears nothing", x.heard(1, 169), 0);
        due("nor sends", x.heard(0, 198), 200);
    }

    private static void sum() {
        promise = 17;
        EchoRow x = scene();
        due("without a focus", x.sum(198), STATE);
        x.focus(25, 20);
        due("sum(198)", x.sum(198), 900);
        due("sum(197)", x.sum(197), 0);
        due("by both delays", x.sum(240 + 29 + 29), 500);
        due("sum(LEAST)", x.sum(LEAST), 0);
        due("sum(MOST)", x.sum(MOST), 0);
        x.lose(1, true);
        due("without a focus", x.sum(198), STATE);
        x.focus(25, 20);
        due("two work", x.sum(198), 400);
        EchoRow y = twins();
        y.focus(25, 3);
        due("twins", y.sum(20), 28);
    }

    private static void board() {
        promise = 18;
        EchoRow x = scene();
        due("board(25, 20)", x.board(25, 20), 900);
        due("board(20, 30): one's own wall", x.board(20, 30), 500);
        due("board(25, 9)", x.board(25, 9), BAD);
        due("board(25, 31)", x.board(25, 31), BAD);
        due("board(-1, 20)", x.board(-1, 20), BAD);
        due("board(51, 20)", x.board(51, 20), BAD);
        due("board(MOST, LEAST)", x.board(MOST, LEAST), BAD);
        x.lose(1, true);
        due("board(25, 20) when one is lost", x.board(25, 20), 400);
        due("without elements", new EchoRow().board(0, 0), 0);
        due("twins", twins().board(25, 10), 28);
        due("no focus comes by it", x.total(7), 0);
    }

    private static void tell() {
        promise = 19;
        EchoRow x = new EchoRow();
        due("tell(0, 0, 5)", x.tell(0, 0, 5), UNKNOWN);
        x.element(0);
        x.element(30);
        due("tell(2, 0, 5)", x.tell(2, 0, 5), UNKNOWN);
        due("tell(0, -1, -5)", x.tell(0, -1, -5), UNKNOWN);
        due("tell(0, 0, -1)", x.tell(0, 0, -1), BAD);
        due("tell(0, 0, 4001)", x.tell(0, 0, 4001), BAD);
        due("tell(0, 0, LEAST)", x.tell(0, 0, LEAST), BAD);
        due("tell(0, 0, 0)", x.tell(0, 0, 0), 1);
        due("tell(0, 0, 4000)", x.tell(0, 0, 4000), 2);
        for (int i = 3; i <= 6; i++) {
            due("tell(0, 1, 7)", x.tell(0, 1, 7), i);
        }
        due("the seventh", x.tell(0, 1, 7), FULL);
        due("bad first", x.tell(0, 1, 4001), BAD);
        due("unknown first", x.tell(0, 2, 7), UNKNOWN);
        due("total(3)", x.total(3), 6);
        x.forget();
        x.lose(0, true);
        due("of one that is lost", x.tell(0, 1, 40), 1);
    }

    private static void forget() {
        promise = 20;
        EchoRow x = new EchoRow();
        due("forget()", x.forget(), 0);
        x.element(0);
        x.tell(0, 0, 0);
        x.tell(0, 0, 0);
        due("places(0)", x.places(0), 1);
        due("forget()", x.forget(), 2);
        due("places(0)", x.places(0), 1581);
        due("forget()", x.forget(), 0);
        due("total(3)", x.total(3), 0);
        due("tell(0, 0, 2)", x.tell(0, 0, 2), 1);
        // At depth 0 x 1; at depth 1 x 0 and 1, of the root of 2.
        due("places(0)", x.places(0), 3);
    }

    private static void places() {
        promise = 21;
        EchoRow x = new EchoRow();
        x.element(0);
        x.element(30);
        due("places(-1)", x.places(-1), BAD);
        due("places(101)", x.places(101), BAD);
        due("places(LEAST)", x.places(LEAST), BAD);
        due("places(100)", x.places(100), 1581);
        x.tell(0, 0, 40);
        x.tell(1, 1, 40);
        due("places(0)", x.places(0), 1);
        due("places(1)", x.places(1), 1);
        due("places(100)", x.places(100), 1581);
        x.tell(0, 1, 46);
        due("all told times count", x.places(0), 0);
        x.lose(0, true);
        x.forget();
        x.tell(0, 0, 100);
        due("farthest off, 100 from it", x.places(100), 1581);
        x.forget();
        x.tell(0, 0, 4000);
        due("nowhere", x.places(100), 0);
        x.forget();
        x.tell(0, 1, 30);
        x.body(5, 1, 1, 1);
        due("another body", x.places(100), 51 * 2);
        x.body(0, 1, 1, 1);
        // At depth 1 the places below the two themselves take a tick more.
        due("all between the two", x.places(0), 31 + 29);
        x.forget();
        x.tell(0, 0, 40);
        due("x 20 alone", x.places(1), 2);
        due("x 18 to 22", x.places(5), 10);
        due("x 17 to 23", x.places(6), 14);
    }

    private static void place() {
        promise = 22;
        EchoRow x = new EchoRow();
        x.element(0);
        due("place(0, 0)", x.place(0, 0), 0);
        due("place(0, 1)", x.place(0, 1), 1000);
        due("place(0, 50)", x.place(0, 50), 50000);
        due("place(0, 51)", x.place(0, 51), 1);
        due("place(0, 1580)", x.place(0, 1580), 50030);
        due("place(0, 1581)", x.place(0, 1581), NONE);
        due("place(0, -1)", x.place(0, -1), NONE);
        due("place(100, LEAST)", x.place(100, LEAST), NONE);
        due("place(100, MOST)", x.place(100, MOST), NONE);
        due("place(101, -1)", x.place(101, -1), BAD);
        due("place(-1, 0)", x.place(-1, 0), BAD);
        x.tell(0, 0, 2);
        due("place(0, 0)", x.place(0, 0), 1000);
        due("place(0, 1)", x.place(0, 1), 1);
        due("place(0, 2)", x.place(0, 2), 1001);
        due("place(0, 3)", x.place(0, 3), NONE);
        due("place(2, 0)", x.place(2, 0), 0);
        x.forget();
        x.body(20, 30, 1, 1);
        due("the first is at the wedge's end", x.place(0, 0), 20);
        due("the last is at the floor", x.place(0, 1580), 50050);
    }

    private static void sheet() {
        promise = 23;
        EchoRow x = new EchoRow();
        due("sheet(0, 0, 64)", x.sheet(0, 0, 64), 64);
        due("sheet(5, 2, 0)", x.sheet(5, 2, 0), 0);
        due("sheet(-1, 9, -1)", x.sheet(-1, 9, -1), PLACE);
        due("sheet(6, 0, 1)", x.sheet(6, 0, 1), PLACE);
        due("sheet(LEAST, 0, 1)", x.sheet(LEAST, 0, 1), PLACE);
        due("sheet(1, -1, -1)", x.sheet(1, -1, -1), BAD);
        due("sheet(1, 3, 1)", x.sheet(1, 3, 1), BAD);
        due("sheet(1, 0, 65)", x.sheet(1, 0, 65), BAD);
        due("sheet(1, 0, MOST)", x.sheet(1, 0, MOST), BAD);
        due("sheet(0, 0, -1)", x.sheet(0, 0, -1), SIZE);
        due("sheet(1, 2, LEAST)", x.sheet(1, 2, LEAST), SIZE);
        due("total(4)", x.total(4), 5);
        due("total(5)", x.total(5), 2);
        due("at(0, 63)", x.at(0, 63), 0);
        EchoRow y = threeSheets();
        due("at(1, 2)", y.at(1, 2), 1800);
        due("anew", y.sheet(1, 0, 3), 3);
        row(y, 1, 0, 0, 0, PLACE);
        due("of its new lane", y.copy(0, 0, 1, 0, 3), 3);
    }

    private static void tear() {
        promise = 24;
        EchoRow x = new EchoRow();
        due("tear(3)", x.tear(3), 1);
        x.sheet(3, 1, 0);
        due("tear(3)", x.tear(3), 0);
        due("tear(3)", x.tear(3), 1);
        due("peak(3)", x.peak(3), NULL);
        due("tear(6)", x.tear(6), PLACE);
        due("tear(-1)", x.tear(-1), PLACE);
        due("tear(MOST)", x.tear(MOST), PLACE);
        due("total(4)", x.total(4), 4);
        due("total(5)", x.total(5), 0);
    }

    private static void record() {
        promise = 25;
        EchoRow x = threeSheets();
        row(x, 0, 0, 0, 127, 0);
        row(x, 1, 0, 0, 1800, 0);
        row(x, 2, 0, 0, 1800, 0);
        due("record(1, 0, 0, 20)", x.record(1, 0, 0, 20), 4);
        row(x, 1, 1800, 0, 0, 0);
        due("record(1, 0, 0, 17)", x.record(1, 0, 0, 17), 4);
        row(x, 1, 0, 0, 0, 1800);
        due("far on", x.record(1, 0, 0, MOST), 4);
        row(x, 1, 0, 0, 0, 0);
        due("far back", x.record(1, 0, 0, LEAST), 4);
        due("from below 0", x.record(2, 0, 0, -2), 4);
        row(x, 2, 0, 0, 0, 0);
        x.drop();
        x.drop();
        x.target(0, 25, 0, 10, -129);
        x.record(0, 0, 0, 20);
        row(x, 0, -128, 0, 0, 0);
        x.lose(0, true);
        due("lost", x.record(0, 0, 0, 20), 4);
        row(x, 0, 0, 0, 0, 0);
        x.sheet(4, 0, 0);
        due("a row of none", x.record(4, 0, 0, 20), 0);
        int counted = x.total(4);
        due("record(6, 9, 9, 0)", x.record(6, 9, 9, 0), PLACE);
        due("record(-1, 0, 0, 0)", x.record(-1, 0, 0, 0), PLACE);
        due("record(5, 1, 0, 0)", x.record(5, 1, 0, 0), UNKNOWN);
        due("record(5, 0, 1, 0)", x.record(5, 0, 1, 0), UNKNOWN);
        due("record(5, 0, -1, 0)", x.record(5, 0, -1, 0), UNKNOWN);
        due("record(5, 0, 0, 0)", x.record(5, 0, 0, 0), NULL);
        due("total(4)", x.total(4), counted + 3);
        EchoRow y = touching();
        y.sheet(0, 2, 3);
        y.record(0, 0, 0, -1);
        row(y, 0, 0, 3, 0);
    }

    private static void add() {
        promise = 26;
        EchoRow x = threeSheets();
        due("add(0, 1, 1)", x.add(0, 1, 1), 3);
        row(x, 1, 0, 0, 1800, 127);
        due("add(1, 1, -1)", x.add(1, 1, -1), 3);
        row(x, 1, 0, 1800, 1927, 127);
        due("as they were ahead, on", x.add(1, 1, 1), 3);
        row(x, 1, 0, 1800, 3727, 2054);
        due("add(1, 2, 3)", x.add(1, 2, 3), 1);
        due("add(1, 2, 4)", x.add(1, 2, 4), 0);
        due("add(1, 2, -3)", x.add(1, 2, -3), 1);
        row(x, 2, 2054, 0, 1800, 0);
        due("add(1, 2, -4)", x.add(1, 2, -4), 0);
        due("add(1, 2, MOST)", x.add(1, 2, MOST), 0);
        due("add(1, 2, LEAST)", x.add(1, 2, LEAST), 0);
        x.sheet(3, 1, 2);
        due("to a shorter one", x.add(1, 3, -2), 2);
        row(x, 3, 3727, 2054);
        due("from a shorter one", x.add(3, 2, 1), 2);
        row(x, 2, 2054, 3727, 3854, 0);
        int counted = x.total(4);
        due("add(6, 5, 0)", x.add(6, 5, 0), PLACE);
        due("add(5, 6, 0)", x.add(5, 6, 0), PLACE);
        due("add(-1, 0, 0)", x.add(-1, 0, 0), PLACE);
        due("add(0, LEAST, 0)", x.add(0, LEAST, 0), PLACE);
        due("add(5, 0, 0)", x.add(5, 0, 0), NULL);
        due("add(0, 5, 0)", x.add(0, 5, 0), NULL);
        due("total(4)", x.total(4), counted + 6);
    }

    private static void addNearest() {
        EchoRow x = threeSheets();
        due("bytes", x.add(2, 0, 0), 4);
        row(x, 0, 0, 0, 127, 0);
        for (int i = 0; i < 40; i++) {
            x.add(1, 1, 0);
            x.add(2, 2, 0);
        }
        row(x, 1, 0, 0, 32767, 0);
        row(x, 2, 0, 0, MOST, 0);
        x.drop();
        x.drop();
        x.target(0, 25, 0, 10, -1000);
        for (int lane = 0; lane <= 2; lane++) {
            x.record(lane, 0, 0, 18);
            for (int i = 0; i < 40; i++) {
                x.add(lane, lane, 0);
            }
        }
        row(x, 0, 0, 0, -128, 0);
        row(x, 1, 0, 0, -32768, 0);
        row(x, 2, 0, 0, LEAST, 0);
        due("ints to bytes", x.add(2, 0, 1), 3);
        row(x, 0, 0, 0, -128, -128);
    }

    private static void copy() {
        promise = 27;
        EchoRow x = threeSheets();
        x.sheet(3, 1, 6);
        due("copy(1, 1, 3, 3, 3)", x.copy(1, 1, 3, 3, 3), 3);
        row(x, 3, 0, 0, 0, 0, 1800, 0);
        due("over itself, back", x.copy(3, 1, 3, 0, 5), 5);
        row(x, 3, 0, 0, 0, 1800, 0, 0);
        x.add(1, 3, 0);
        row(x, 3, 0, 0, 1800, 1800, 0, 0);
        due("over itself, on", x.copy(3, 2, 3, 3, 3), 3);
        row(x, 3, 0, 0, 1800, 1800, 1800, 0);
        due("none, at the ends", x.copy(1, 4, 3, 6, 0), 0);
        int counted = x.total(4);
        int[][] beyond = {
            {5, 0, 0}, {0, 7, 0}, {4, 0, 1}, {0, 6, 1}, {-1, 0, 1}, {0, -1, 1}, {-1, 0, 0}, {0, -1, 0}, {0, 0, 5}, {0, 4, 3},
            {0, 0, MOST}, {MOST, 0, 1}, {0, MOST, MOST}, {MOST, MOST, MOST}, {LEAST, 0, 0}, {0, LEAST, 1}
        };
        for (int[] b : beyond) {
            due("copy(1, " + b[0] + ", 3, " + b[1] + ", " + b[2] + ")", x.copy(1, b[0], 3, b[1], b[2]), PLACE);
        }
        due("total(4)", x.total(4), counted + beyond.length);
        row(x, 3, 0, 0, 1800, 1800, 1800, 0);
        x.sheet(4, 1, 0);
        due("of rows of none", x.copy(4, 0, 4, 0, 0), 0);
    }

    private static void copyOrder() {
        EchoRow x = threeSheets();
        due("copy(6, 0, 5, 0, 1)", x.copy(6, 0, 5, 0, 1), PLACE);
        due("copy(5, 0, 6, 0, 1)", x.copy(5, 0, 6, 0, 1), PLACE);
        due("copy(-1, 0, 0, 0, 1)", x.copy(-1, 0, 0, 0, 1), PLACE);
        due("copy(5, 0, 0, 0, -1)", x.copy(5, 0, 0, 0, -1), NULL);
        due("copy(0, 0, 5, 0, -1)", x.copy(0, 0, 5, 0, -1), NULL);
        due("copy(0, 0, 1, 0, -1)", x.copy(0, 0, 1, 0, -1), CAST);
        due("copy(1, 9, 2, 9, 9)", x.copy(1, 9, 2, 9, 9), CAST);
        due("copy(1, -1, 1, 9, -1)", x.copy(1, -1, 1, 9, -1), SIZE);
        due("copy(1, 0, 1, 0, LEAST)", x.copy(1, 0, 1, 0, LEAST), SIZE);
        due("total(4)", x.total(4), 9);
    }

    private static void at() {
        promise = 28;
        EchoRow x = threeSheets();
        due("at(2, 2)", x.at(2, 2), 1800);
        due("at(2, 3)", x.at(2, 3), 0);
        due("at(2, 4)", x.at(2, 4), PLACE);
        due("at(2, -1)", x.at(2, -1), PLACE);
        due("at(2, MOST)", x.at(2, MOST), PLACE);
        due("at(2, LEAST)", x.at(2, LEAST), PLACE);
        due("at(5, -1)", x.at(5, -1), NULL);
        due("at(6, 0)", x.at(6, 0), PLACE);
        due("at(-1, 0)", x.at(-1, 0), PLACE);
        due("total(4)", x.total(4), 7);
        x.sheet(5, 0, 0);
        due("at(5, 0)", x.at(5, 0), PLACE);
    }

    private static void peak() {
        promise = 29;
        EchoRow x = threeSheets();
        due("peak(1)", x.peak(1), 2);
        x.add(1, 1, -1);
        due("the first of like ones", x.peak(1), 1);
        x.sheet(1, 1, 4);
        due("all 0", x.peak(1), 0);
        x.sheet(1, 1, 0);
        due("of none", x.peak(1), NONE);
        due("peak(5)", x.peak(5), NULL);
        due("peak(6)", x.peak(6), PLACE);
        due("peak(-1)", x.peak(-1), PLACE);
        due("total(4)", x.total(4), 3);
        EchoRow y = new EchoRow();
        y.element(25);
        y.target(0, 25, 0, 10, 900);
        y.target(0, 25, 0, 11, -901);
        y.sheet(0, 2, 5);
        y.record(0, 0, 0, 19);
        row(y, 0, 0, 900, 0, -901, 0);
        due("below 0, too", y.peak(0), 3);
        for (int i = 0; i < 40; i++) {
            y.add(0, 0, 0);
        }
        row(y, 0, 0, MOST, 0, LEAST, 0);
        due("the least int is farthest", y.peak(0), 3);
    }

    private static void total() {
        promise = 30;
        EchoRow x = scene();
        x.lose(1, true);
        x.drop();
        x.tell(0, 0, 3);
        x.tell(0, 2, 3);
        x.tell(0, 2, 3);
        x.tell(0, 2, 3);
        x.sheet(0, 0, 0);
        x.sheet(5, 2, 9);
        x.sheet(3, 2, 9);
        x.sheet(2, 2, 9);
        x.sheet(1, 2, 9);
        x.tear(3);
        x.tear(3);
        for (int i = 0; i < 6; i++) {
            x.tear(6);
        }
        x.focus(25, 20);
        x.body(0, 0, 0, 0);
        int[] want = {3, 2, 2, 4, 6, 4, 30, 1};
        for (int what = 0; what < want.length; what++) {
            due("total(" + what + ")", x.total(what), want[what]);
        }
        due("total(8)", x.total(8), BAD);
        due("total(-1)", x.total(-1), BAD);
        due("total(MOST)", x.total(MOST), BAD);
        due("total(LEAST)", x.total(LEAST), BAD);
        due("a refusal is no finding", x.total(4), 6);
        x.lose(0, true);
        due("total(7)", x.total(7), 0);
    }

    private static void refusedChangesNothing() {
        promise = 30;
        EchoRow x = threeSheets();
        x.focus(25, 10);
        x.sheet(1, 3, 1);
        x.sheet(1, 0, 65);
        x.sheet(1, 0, -1);
        x.record(1, 1, 0, 0);
        x.add(1, 5, 0);
        x.copy(1, 2, 1, 0, 3);
        x.copy(1, 2, 2, 0, 1);
        row(x, 1, 0, 0, 1800, 0);
        due("total(0)", x.total(0), 1);
        due("total(4)", x.total(4), 4);
        due("total(5)", x.total(5), 3);
        due("total(7)", x.total(7), 1);
    }
}

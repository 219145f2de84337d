import java.util.ArrayList;
import java.util.List;

/**
 * "What is refused, found changes nothing but counts": of two rows made alike one gets a call that is refused or
 * found; then every other call, those that change something too, must answer the same on both.
 */
public final class RefusalTest {
    private static final String NOTHING_ELSE = "What is refused, found changes nothing but counts";
    private static final String BARE = "total(0)";
    /** A wedge, three ELEMENTS of which one is LOST, each kind of TARGET, SHEETS of each LANE, one MISSING; a FOCUS. */
    private static final String SOME = """
        body(10, 20, 2, 5); element(0); element(20); element(50); lose(2, true); target(0, 25, 0, 20, 100); target(1, 10, 30, 28, -60)
        target(2, 0, 0, 0, 500); tell(0, 1, 169); tell(1, 1, 140); sheet(0, 0, 5); sheet(1, 1, 8); sheet(2, 2, 8); sheet(3, 1, 0); sheet(4, 2, 3)
        record(0, 1, 1, 138); record(1, 1, 1, 134); record(2, 1, 1, 236); record(4, 0, 1, 168); at(5, 0); focus(25, 20)
        """;
    /** As much of all as there can be. */
    private static final String FULL = """
        body(3, 30, 3, 2); element(0); element(7); element(14); element(21); element(28); element(35); element(42); element(50)
        target(0, 0, 0, 3, 1000); target(0, 50, 0, 33, -1000); target(1, 0, 50, 20, 7); target(1, 50, 50, 3, 8); 4 x target(2, 0, 0, 0, 900)
        6 x tell(0, 7, 150); sheet(0, 0, 64); sheet(1, 1, 64); sheet(2, 2, 64); sheet(3, 0, 64); sheet(4, 1, 64); sheet(5, 2, 64)
        record(0, 3, 3, 100); record(1, 3, 3, 100); record(2, 3, 3, 100); record(3, 0, 0, 9); record(4, 0, 0, 9); record(5, 0, 7, 140); focus(25, 3)
        """;

    public static void main(String[] args) {
        of(BARE, bareRow());
        of(SOME, bodyAndTargets());
        of(SOME, times());
        of(SOME, sheets());
        of(FULL, fullRow());
        Script.end();
    }

    private static String bareRow() {
        return """
            lose(0, true) = UNKNOWN; drop() = STATE; taken(0, 0, 0) = UNKNOWN; time(0, 0, 0) = UNKNOWN; bend(0, 0, 0) = UNKNOWN
            echoTime(0, 0, 0) = UNKNOWN; slowness(0, 0, 0) = UNKNOWN; echo(0, 0, 0) = UNKNOWN; gate(0, 0, 0, 0, 1) = UNKNOWN; focus(0, 0) = STATE
            delay(0) = UNKNOWN; heard(0, 0) = UNKNOWN; sum(0) = STATE; tell(0, 0, 0) = UNKNOWN; record(0, 0, 0, 0) = UNKNOWN; add(0, 1, 0) = NULL
            copy(0, 0, 1, 0, 0) = NULL; at(0, 0) = NULL; peak(0) = NULL; body(21, 30, 1, 1) = BAD; element(51) = BAD; target(0, 0, 0, 31, 0) = BAD
            sheet(0, 0, -1) = SIZE; sheet(0, 3, 1) = BAD; sheet(0, 0, 65) = BAD
            """;
    }

    private static String bodyAndTargets() {
        return """
            body(-1, 20, 2, 5) = BAD; body(21, 20, 2, 5) = BAD; body(10, 0, 2, 5) = BAD; body(10, 31, 2, 5) = BAD; body(10, 20, 0, 5) = BAD
            body(10, 20, 9, 5) = BAD; body(10, 20, 2, 0) = BAD; body(10, 20, 2, 9) = BAD; body(20, 7, 1, 1) = STATE; body(0, 19, 1, 1) = STATE
            body(0, 27, 8, 8) = STATE; element(-1) = BAD; element(51) = BAD; element(MIN) = BAD; lose(3, true) = UNKNOWN; lose(-1, false) = UNKNOWN
            lose(MAX, true) = UNKNOWN; target(3, 5, 5, 15, 1) = BAD; target(-1, 5, 5, 15, 1) = BAD; target(0, 51, 5, 15, 1) = BAD
            target(0, 5, 5, 9, 1) = BAD; target(1, 5, 4, 15, 1) = BAD; target(1, 5, 51, 15, 1) = BAD; target(1, 5, 6, 31, 1) = BAD
            target(2, 5, 5, 15, 1001) = BAD; target(0, 5, 5, 15, -1001) = BAD; taken(3, 0, 0) = UNKNOWN; taken(-1, 0, 0) = UNKNOWN
            taken(0, 3, 0) = BAD; taken(0, 0, 3) = BAD; taken(0, 1, 0) = CAST; taken(1, 2, 3) = CAST; total(8) = BAD; total(-1) = BAD
            """;
    }

    private static String times() {
        return """
            time(3, 25, 20) = UNKNOWN; time(0, 25, 9) = BAD; time(0, 51, 20) = BAD; bend(3, 25, 20) = UNKNOWN; bend(0, 25, 31) = BAD
            echoTime(3, 0, 0) = UNKNOWN; echoTime(0, 3, 0) = UNKNOWN; echoTime(0, 0, 3) = UNKNOWN; slowness(3, 0, 5) = UNKNOWN; slowness(0, 0, -1) = BAD
            echo(3, 0, 5) = UNKNOWN; echo(0, -1, 5) = UNKNOWN; gate(3, 0, 0, 9, 1) = UNKNOWN; gate(0, 0, 5, 4, 1) = BAD; gate(0, 0, 0, 4001, 1) = BAD
            gate(0, 0, 0, 9, 0) = BAD; gate(0, 0, -1, 9, 1) = BAD; focus(25, 9) = BAD; focus(51, 20) = BAD; delay(3) = UNKNOWN; heard(3, 5) = UNKNOWN
            board(25, 31) = BAD; board(-1, 20) = BAD; tell(3, 0, 5) = UNKNOWN; tell(0, 3, 5) = UNKNOWN; tell(0, 0, -1) = BAD; tell(0, 0, 4001) = BAD
            places(-1) = BAD; places(101) = BAD; place(101, 0) = BAD; place(-1, 0) = BAD
            """;
    }

    private static String sheets() {
        return """
            sheet(-1, 0, 1) = PLACE; sheet(6, 0, 1) = PLACE; sheet(1, 3, 1) = BAD; sheet(1, -1, 1) = BAD; sheet(1, 0, 65) = BAD; sheet(1, 0, -1) = SIZE
            sheet(5, 2, MIN) = SIZE; tear(-1) = PLACE; tear(6) = PLACE; record(6, 0, 0, 0) = PLACE; record(1, 3, 0, 0) = UNKNOWN
            record(1, 0, 3, 0) = UNKNOWN; record(5, 0, 0, 0) = NULL; add(6, 1, 0) = PLACE; add(1, 6, 0) = PLACE; add(5, 1, 0) = NULL; add(1, 5, 0) = NULL
            copy(6, 0, 1, 0, 1) = PLACE; copy(1, 0, 6, 0, 1) = PLACE; copy(5, 0, 1, 0, 1) = NULL; copy(1, 0, 5, 0, 1) = NULL; copy(1, 0, 2, 0, 1) = CAST
            copy(0, 0, 1, 0, 1) = CAST; copy(1, 0, 1, 1, -1) = SIZE; copy(1, 6, 1, 0, 3) = PLACE; copy(1, 0, 1, 6, 3) = PLACE; copy(4, 2, 2, 0, 2) = PLACE
            copy(2, 0, 4, 2, 2) = PLACE; copy(1, -1, 1, 0, 2) = PLACE; copy(2, 0, 4, 0, MAX) = PLACE; at(6, 0) = PLACE; at(5, 0) = NULL; at(1, 8) = PLACE
            at(1, -1) = PLACE; peak(6) = PLACE; peak(5) = NULL
            """;
    }

    private static String fullRow() {
        return """
            element(25) = FULL; element(51) = BAD; target(0, 25, 0, 10, 5) = FULL; target(1, 25, 26, 10, 5) = FULL; target(2, 0, 0, 0, 5) = FULL
            target(0, 25, 0, 2, 5) = BAD; tell(0, 0, 40) = FULL; tell(0, 0, 4001) = BAD; tell(8, 0, 40) = UNKNOWN; lose(8, true) = UNKNOWN
            taken(8, 0, 0) = UNKNOWN; echoTime(7, 8, 7) = UNKNOWN; body(4, 30, 3, 2) = STATE; body(3, 29, 3, 2) = STATE; sheet(6, 0, 64) = PLACE
            sheet(5, 0, 65) = BAD; at(5, 64) = PLACE; copy(2, 1, 5, 0, 64) = PLACE; copy(5, 0, 2, 1, 64) = PLACE; delay(8) = UNKNOWN
            """;
    }

    /** Each of the refusals alone, on a row of its own. */
    private static void of(String made, String refusals) {
        for (String refusal : Script.steps(refusals)) {
            EchoRow touched = new EchoRow();
            EchoRow twin = new EchoRow();
            Script.play(NOTHING_ELSE, touched, made);
            Script.play(NOTHING_ELSE, twin, made);
            Script.play(NOTHING_ELSE, touched, refusal);
            int due = Script.number(refusal.split(" = ")[1]);
            alike(refusal, touched, twin, due <= EchoRow.NULL && due >= EchoRow.SIZE ? 1 : 0);
        }
    }

    private static void alike(String refusal, EchoRow touched, EchoRow twin, int counted) {
        for (String call : picture()) {
            int got = Script.on(touched, call);
            int want = Script.on(twin, call) + (call.equals("total(4)") ? counted : 0);
            Script.due(NOTHING_ELSE, refusal + ", then " + call, got, want);
        }
    }

    /** Calls that together show all of a row: first those that only look, then those that change it. */
    private static List<String> picture() {
        List<String> calls = new ArrayList<>();
        for (int what = 0; what <= 7; what++) {
            calls.add("total(" + what + ")");
        }
        for (int e = 0; e <= 8; e++) {
            calls.add("delay(" + e + ")");
            calls.add("time(" + e + ", 25, 20)");
            calls.add("time(" + e + ", 50, 29)");
            calls.add("bend(" + e + ", 9, 11)");
            calls.add("heard(" + e + ", 169)");
            calls.add("slowness(" + e + ", 0, 200)");
            calls.add("gate(" + e + ", 1, 0, 4000, 1)");
        }
        for (int t = 0; t <= 8; t++) {
            calls.add("echoTime(0, 1, " + t + ")");
            calls.add("taken(" + t + ", 0, 0)");
            calls.add("taken(" + t + ", 0, 2)");
            calls.add("taken(" + t + ", 1, 1)");
            calls.add("taken(" + t + ", 2, 3)");
        }
        for (int s = 0; s <= 5; s++) {
            calls.add("peak(" + s + ")");
            for (int i = 0; i <= 8; i++) {
                calls.add("at(" + s + ", " + i + ")");
            }
            calls.add("at(" + s + ", 63)");
        }
        calls.addAll(Script.steps("""
            echo(1, 1, 140); echo(0, 0, 60); sum(198); sum(240); board(25, 20); board(20, 30); places(0); places(20); place(20, 3); total(4)
            copy(1, 0, 4, 0, 2); copy(2, 3, 4, 0, 3); add(0, 1, 1); at(1, 3); add(4, 5, 0); at(5, 1); record(2, 0, 1, 165); at(2, 4); peak(2)
            tell(0, 1, 77); total(3); forget(); element(33); total(0); focus(25, 20); delay(0); sum(198); lose(0, true); total(7); sum(0)
            drop(); target(0, 5, 0, 20, 3); echoTime(1, 1, 3); body(9, 21, 1, 1); time(0, 0, 30); time(0, 0, 9); tear(1); tear(5); sheet(0, 2, 2); at(0, 1)
            total(4); total(5)
            """));
        return calls;
    }
}

/** Promises 1 to 11, each sentence that names a bound, a refusal or what is not looked at. */
public final class BodyEdgeTest {
    public static void main(String[] args) {
        aNewObject();
        body();
        bodyState();
        element();
        lose();
        target();
        targetKinds();
        drop();
        taken();
        takenAs();
        time();
        bend();
        echoTime();
        slowness();
        Script.end();
    }

    private static void aNewObject() {
        Script.holds("1: THE BODY as at first; nothing else", """
            total(0) = 0; total(1) = 0; total(2) = 0; total(3) = 0; total(4) = 0; total(5) = 0; total(6) = 30; total(7) = 0
            places(0) = 1581; board(0, 0) = 0; forget() = 0; drop() = STATE; focus(0, 0) = STATE; sum(0) = STATE
            lose(0, true) = UNKNOWN; taken(0, 0, 0) = UNKNOWN; time(0, 0, 0) = UNKNOWN; bend(0, 0, 0) = UNKNOWN
            echoTime(0, 0, 0) = UNKNOWN; slowness(0, 0, 0) = UNKNOWN; echo(0, 0, 0) = UNKNOWN; gate(0, 0, 0, 0, 1) = UNKNOWN
            delay(0) = UNKNOWN; heard(0, 0) = UNKNOWN; tell(0, 0, 0) = UNKNOWN; record(0, 0, 0, 0) = UNKNOWN; total(4) = 0
            at(0, 0) = NULL; peak(5) = NULL; add(0, 5, 0) = NULL; copy(5, 0, 0, 0, 0) = NULL; total(4) = 4
            """);
    }

    private static void body() {
        Script.holds("2: THE BODY is told: THE FLOOR", """
            body(0, 1, 1, 1) = 1; body(20, 30, 8, 8) = 50; body(20, 1, 8, 1) = 21; body(0, 30, 1, 8) = 30; body(0, 30, 1, 8) = 30
            """);
        Script.holds("2: BAD: W, P, U, V", """
            element(25); body(7, 9, 2, 3) = 16; body(-1, 9, 2, 3) = BAD; body(21, 9, 2, 3) = BAD; body(7, 0, 2, 3) = BAD
            body(7, 31, 2, 3) = BAD; body(7, 9, 0, 3) = BAD; body(7, 9, 9, 3) = BAD; body(7, 9, 2, 0) = BAD; body(7, 9, 2, 9) = BAD
            body(MIN, MIN, MIN, MIN) = BAD; body(MAX, MAX, MAX, MAX) = BAD; body(MIN, MAX, 1, 1) = BAD; body(1, MAX, 1, 1) = BAD
            total(6) = 16; time(0, 25, 7) = 14; time(0, 25, 16) = 41; time(0, 25, 6) = BAD; time(0, 25, 17) = BAD
            """);
        Script.holds("2: (A WALL lies at the new FLOOR.)", """
            element(25); target(2, 0, 0, 0, 4); echoTime(0, 0, 0) = 60; echo(0, 0, 60) = 4
            body(0, 1, 1, 1) = 1; echoTime(0, 0, 0) = 2; echo(0, 0, 60) = 0; echo(0, 0, 2) = 4; taken(0, 0, 2) = 1
            body(20, 30, 1, 1) = 50; echoTime(0, 0, 0) = 100; echo(0, 0, 2) = 0; echo(0, 0, 100) = 4; taken(0, 2, 2) = 50
            """);
        Script.holds("2: told times, ELEMENTS, SHEETS stay", """
            element(25); element(26); lose(1, true); tell(0, 0, 4); sheet(0, 0, 3); body(1, 1, 1, 1) = 2
            total(0) = 2; total(1) = 1; total(3) = 1; total(5) = 1; places(100) = 102
            """);
    }

    private static void bodyState() {
        Script.holds("2: STATE: a POINT would not be in THE PLATE", """
            target(0, 5, 0, 10, 1); body(10, 1, 1, 1) = 11; body(11, 1, 1, 1) = STATE; total(6) = 11; body(0, 10, 1, 1) = 10
            body(0, 9, 1, 1) = STATE; body(9, 1, 1, 1) = 10; body(8, 1, 1, 1) = STATE; body(20, 30, 1, 1) = STATE; total(6) = 10
            """);
        Script.holds("2: STATE: a BAR would not be in THE PLATE", """
            target(1, 5, 9, 10, 1); body(10, 1, 1, 1) = 11; body(11, 1, 1, 1) = STATE; total(6) = 11; body(0, 10, 1, 1) = 10
            body(0, 9, 1, 1) = STATE; body(9, 1, 1, 1) = 10; body(8, 1, 1, 1) = STATE; total(6) = 10
            """);
        Script.holds("2: STATE: not of a WALL", """
            body(20, 30, 1, 1) = 50; target(2, 0, 0, 0, 1); body(0, 1, 1, 1) = 1; body(20, 1, 1, 1) = 21
            """);
        Script.holds("2: STATE: of any TARGET, the first and the last of 8", """
            target(0, 5, 0, 3, 1); 6 x target(2, 0, 0, 0, 1); target(0, 5, 0, 9, 1); body(4, 9, 1, 1) = STATE; body(0, 8, 1, 1) = STATE
            body(3, 6, 1, 1) = 9; drop() = 7; body(0, 8, 1, 1) = 8; 7 x drop(); body(20, 8, 1, 1) = 28
            """);
        Script.holds("2: BAD ahead of STATE", """
            target(0, 5, 0, 10, 1); body(21, 1, 1, 1) = BAD; body(11, 0, 1, 1) = BAD; body(11, 1, 9, 1) = BAD; body(11, 1, 1, 0) = BAD
            body(11, 1, 1, 1) = STATE
            """);
    }

    private static void element() {
        Script.holds("3: An ELEMENT at x: its number. BAD", """
            element(-1) = BAD; element(51) = BAD; element(MIN) = BAD; element(MAX) = BAD; total(0) = 0
            element(50) = 0; element(0) = 1; element(0) = 2; time(0, 50, 0) = 0; time(1, 0, 0) = 0; time(2, 1, 0) = 1
            """);
        Script.holds("3: FULL: 8, BAD ahead of it", """
            8 x element(7); element(7) = FULL; element(0) = FULL; element(50) = FULL; element(-1) = BAD; element(51) = BAD; element(MIN) = BAD
            total(0) = 8; total(1) = 8; lose(7, true) = 7; element(7) = FULL
            """);
    }

    private static void lose() {
        Script.holds("4: how many WORK", """
            8 x element(7); lose(0, true) = 7; lose(1, true) = 6; lose(2, true) = 5; lose(3, true) = 4; lose(4, true) = 3
            lose(5, true) = 2; lose(6, true) = 1; lose(7, true) = 0; lose(7, true) = 0; total(1) = 0; total(0) = 8; lose(3, false) = 1
            lose(3, false) = 1; lose(7, false) = 2
            """);
        Script.holds("4: UNKNOWN", """
            lose(0, true) = UNKNOWN; lose(0, false) = UNKNOWN; element(7); lose(1, true) = UNKNOWN; lose(-1, true) = UNKNOWN
            lose(MIN, true) = UNKNOWN; lose(MAX, false) = UNKNOWN; total(1) = 1; 7 x element(7); lose(8, true) = UNKNOWN
            lose(9, true) = UNKNOWN; lose(7, true) = 7; total(1) = 7
            """);
    }

    private static void target() {
        Script.holds("5: BAD: kind", """
            target(0, 1, 1, 1, 1) = 0; target(-1, 1, 1, 1, 1) = BAD; target(2, 1, 1, 1, 1) = 1; target(3, 1, 1, 1, 1) = BAD
            target(MIN, 1, 1, 1, 1) = BAD; target(MAX, 1, 1, 1, 1) = BAD; total(2) = 2
            """);
        Script.holds("5: BAD: y of a POINT, a BAR: no place of THE PLATE", """
            body(10, 5, 1, 1); target(0, 1, 1, 10, 1) = 0; target(0, 1, 1, 9, 1) = BAD; target(0, 1, 1, 15, 1) = 1; target(0, 1, 1, 16, 1) = BAD
            target(1, 1, 1, 10, 1) = 2; target(1, 1, 1, 9, 1) = BAD; target(1, 1, 1, 15, 1) = 3; target(1, 1, 1, 16, 1) = BAD
            target(0, 1, 1, MIN, 1) = BAD; target(0, 1, 1, MAX, 1) = BAD; target(1, 1, 1, MIN, 1) = BAD; target(1, 1, 1, MAX, 1) = BAD
            target(0, 1, 1, 0, 1) = BAD; target(0, 1, 1, 30, 1) = BAD; total(2) = 4
            """);
        Script.holds("5: FULL: 8, BAD ahead of it", """
            8 x target(2, 0, 0, 0, 1); target(0, 1, 1, 1, 1) = FULL; target(1, 1, 1, 1, 1) = FULL; target(2, 0, 0, 0, 1) = FULL
            target(3, 1, 1, 1, 1) = BAD; target(0, 51, 1, 1, 1) = BAD; target(1, 2, 1, 1, 1) = BAD; target(0, 1, 1, 31, 1) = BAD
            target(2, 0, 0, 0, 1001) = BAD; total(2) = 8
            """);
    }

    private static void targetKinds() {
        Script.holds("5: 0 POINT: z is not looked at", """
            target(0, 5, MIN, 1, 1) = 0; target(0, 5, MAX, 1, 1) = 1; target(0, 5, -1, 1, 1) = 2; target(0, 5, 51, 1, 1) = 3
            target(0, 5, 4, 1, 1) = 4; element(5); element(4); echoTime(0, 0, 4) = 2; echoTime(1, 1, 4) = 2; taken(4, 0, 1) = 5
            body(0, 1, 8, 8); echoTime(1, 1, 4) = 22; echoTime(1, 1, 3) = 22
            """);
        Script.holds("5: 2 WALL: x, z, y are not", """
            target(2, MIN, MAX, MIN, 1) = 0; target(2, MAX, MIN, MAX, 1) = 1; target(2, 51, -1, 31, 1) = 2; target(2, -1, 51, -1, 1) = 3
            taken(0, 2, 1) = 0; taken(0, 2, 2) = 30; taken(0, 2, 3) = 50; taken(1, 2, 1) = 0; taken(1, 2, 3) = 50; taken(3, 2, 2) = 30
            """);
        Script.holds("5: 1 BAR: x, z, y, strength are", """
            target(1, 0, 50, 0, 1000) = 0; target(1, -1, 50, 0, 1) = BAD; target(1, 0, 51, 0, 1) = BAD; target(1, 2, 1, 0, 1) = BAD
            target(1, 0, 50, -1, 1) = BAD; target(1, 0, 50, 31, 1) = BAD; target(1, 0, 50, 0, 1001) = BAD; target(1, 50, 50, 30, -1000) = 1
            taken(0, 1, 1) = 0; taken(0, 1, 3) = 50; taken(0, 1, 2) = 0; taken(1, 1, 1) = 50; taken(1, 1, 3) = 50; taken(1, 1, 2) = 30
            """);
    }

    private static void drop() {
        Script.holds("6: The latest TARGET goes: how many are left", """
            8 x target(2, 0, 0, 0, 1); drop() = 7; taken(7, 0, 0) = UNKNOWN; taken(6, 0, 0) = 1; drop() = 6; drop() = 5; drop() = 4
            drop() = 3; drop() = 2; drop() = 1; taken(0, 0, 0) = 1; drop() = 0; taken(0, 0, 0) = UNKNOWN; target(0, 1, 1, 1, 8) = 0
            taken(0, 0, 0) = 8; taken(0, 2, 0) = CAST
            """);
        Script.holds("6: STATE: there is none", """
            drop() = STATE; total(2) = 0; target(2, 0, 0, 0, 1) = 0; drop() = 0; drop() = STATE; drop() = STATE; total(2) = 0; target(2, 0, 0, 0, 1) = 0
            """);
        Script.holds("6: no echo of it is left", """
            element(25); target(2, 0, 0, 0, 5); echo(0, 0, 60) = 5; drop() = 0; echo(0, 0, 60) = 0; gate(0, 0, 0, 4000, 1) = NONE
            board(25, 30) = 0; target(0, 25, 0, 10, 5) = 0; echoTime(0, 0, 0) = 20; echo(0, 0, 60) = 0
            """);
    }

    private static void taken() {
        Script.holds("7: UNKNOWN", """
            taken(0, 0, 0) = UNKNOWN; target(2, 0, 0, 0, 5); taken(0, 0, 0) = 5; taken(1, 0, 0) = UNKNOWN; taken(-1, 0, 0) = UNKNOWN
            taken(MIN, 0, 0) = UNKNOWN; taken(MAX, 0, 0) = UNKNOWN; 7 x target(2, 0, 0, 0, 6); taken(7, 0, 0) = 6; taken(8, 0, 0) = UNKNOWN
            """);
        Script.holds("7: BAD: kind", """
            target(2, 0, 0, 0, 5); taken(0, 0, 0) = 5; taken(0, -1, 0) = BAD; taken(0, 2, 0) = 5; taken(0, 3, 0) = BAD; taken(0, MIN, 0) = BAD
            taken(0, MAX, 0) = BAD
            """);
        Script.holds("7: BAD: what", """
            target(2, 0, 0, 0, 5); taken(0, 2, 3) = 50; taken(0, 2, 4) = BAD; taken(0, 2, -1) = BAD; taken(0, 1, 3) = 50; taken(0, 1, 4) = BAD
            taken(0, 1, -1) = BAD; taken(0, 0, 2) = 30; taken(0, 0, 4) = BAD; taken(0, 0, -1) = BAD; taken(0, 1, MIN) = BAD; taken(0, 1, MAX) = BAD
            """);
        Script.holds("7: if kind is not 0 z (3)", """
            target(0, 3, 0, 4, 5); target(1, 3, 6, 4, 5); target(2, 0, 0, 0, 5); taken(0, 0, 3) = BAD; taken(1, 0, 3) = BAD; taken(2, 0, 3) = BAD
            taken(1, 1, 3) = 6; taken(2, 1, 3) = 50; taken(2, 2, 3) = 50; total(4) = 0
            """);
        Script.holds("7: UNKNOWN ahead of BAD ahead of CAST", """
            target(0, 3, 0, 4, 5); taken(1, 3, 0) = UNKNOWN; taken(1, 0, 4) = UNKNOWN; taken(1, 2, 0) = UNKNOWN; taken(0, 2, 4) = BAD
            taken(0, 1, -1) = BAD; taken(0, 3, 4) = BAD; total(4) = 0; taken(0, 2, 3) = CAST; taken(0, 1, 0) = CAST; total(4) = 2
            """);
    }

    private static void takenAs() {
        Script.holds("7: 0: any", """
            target(0, 3, 0, 4, -5); target(1, 6, 7, 8, 9); target(2, 0, 0, 0, 10); taken(0, 0, 0) = -5; taken(0, 0, 1) = 3; taken(0, 0, 2) = 4
            taken(1, 0, 0) = 9; taken(1, 0, 1) = 6; taken(1, 0, 2) = 8; taken(2, 0, 0) = 10; taken(2, 0, 1) = 0; taken(2, 0, 2) = 30; total(4) = 0
            """);
        Script.holds("7: 1: BAR, WALL", """
            target(0, 3, 0, 4, -5); target(1, 6, 7, 8, 9); target(2, 0, 0, 0, 10); taken(1, 1, 0) = 9; taken(1, 1, 1) = 6; taken(1, 1, 2) = 8
            taken(1, 1, 3) = 7; taken(2, 1, 0) = 10; taken(2, 1, 1) = 0; taken(2, 1, 2) = 30; taken(2, 1, 3) = 50; total(4) = 0
            taken(0, 1, 0) = CAST; taken(0, 1, 1) = CAST; taken(0, 1, 2) = CAST; taken(0, 1, 3) = CAST; total(4) = 4
            """);
        Script.holds("7: 2 (WALL)", """
            target(0, 3, 0, 4, -5); target(1, 6, 7, 8, 9); target(2, 0, 0, 0, 10); taken(2, 2, 0) = 10; taken(2, 2, 1) = 0; taken(2, 2, 2) = 30
            taken(2, 2, 3) = 50; total(4) = 0; taken(0, 2, 0) = CAST; taken(0, 2, 3) = CAST; taken(1, 2, 0) = CAST; taken(1, 2, 1) = CAST
            taken(1, 2, 2) = CAST; taken(1, 2, 3) = CAST; total(4) = 6
            """);
        Script.holds("7: a BAR from 0 to 50 at THE FLOOR is told as a BAR", """
            target(1, 0, 50, 30, 9); taken(0, 2, 0) = CAST; taken(0, 1, 3) = 50; body(0, 29, 1, 1) = STATE
            """);
    }

    private static void time() {
        Script.holds("8: The TIME of an ELEMENT (LOST or not)", """
            element(25); time(0, 25, 30) = 30; lose(0, true); time(0, 25, 30) = 30; time(0, 25, 31) = BAD; time(1, 25, 30) = UNKNOWN
            """);
        Script.holds("8: UNKNOWN", """
            time(0, 0, 0) = UNKNOWN; 7 x element(0); time(6, 0, 9) = 9; time(7, 0, 9) = UNKNOWN; element(0); time(7, 0, 9) = 9; time(8, 0, 9) = UNKNOWN
            time(-1, 0, 9) = UNKNOWN; time(MIN, 0, 9) = UNKNOWN; time(MAX, 0, 9) = UNKNOWN
            """);
        Script.holds("8: BAD: no place of THE PLATE", """
            element(0); body(5, 6, 1, 1); time(0, 0, 5) = 5; time(0, 0, 4) = BAD; time(0, 0, 11) = 11; time(0, 0, 12) = BAD; time(0, -1, 5) = BAD
            time(0, 51, 5) = BAD; time(0, 50, 5) = 50; time(0, MIN, 5) = BAD; time(0, MAX, 5) = BAD; time(0, 0, MIN) = BAD; time(0, 0, MAX) = BAD
            """);
        Script.holds("8: UNKNOWN ahead of BAD", """
            element(0); time(1, 51, 5) = UNKNOWN; time(-1, 0, 31) = UNKNOWN; time(0, 51, 31) = BAD
            """);
    }

    private static void bend() {
        Script.holds("9: UNKNOWN", """
            bend(0, 0, 0) = UNKNOWN; 7 x element(9); bend(6, 9, 0) = 9; bend(7, 9, 0) = UNKNOWN; element(9); bend(7, 9, 0) = 9
            bend(8, 9, 0) = UNKNOWN; bend(-1, 9, 0) = UNKNOWN; bend(MIN, 9, 0) = UNKNOWN; bend(MAX, 9, 0) = UNKNOWN; lose(7, true); bend(7, 9, 0) = 9
            """);
        Script.holds("9: BAD", """
            element(9); body(5, 6, 8, 8); bend(0, 9, 5) = 9; bend(0, 9, 4) = BAD; bend(0, 9, 11) = 8; bend(0, 9, 12) = BAD; bend(0, -1, 5) = BAD
            bend(0, 51, 5) = BAD; bend(0, 0, 5) = 0; bend(0, 50, 5) = 43; bend(0, MIN, 5) = BAD; bend(0, MAX, 5) = BAD
            bend(0, 9, MIN) = BAD; bend(0, 9, MAX) = BAD
            """);
        Script.holds("9: UNKNOWN ahead of BAD", """
            element(0); bend(1, 51, 5) = UNKNOWN; bend(-1, 0, 31) = UNKNOWN; bend(0, 51, 31) = BAD
            """);
    }

    private static void echoTime() {
        Script.holds("10: UNKNOWN: a, b, the TARGET", """
            target(2, 0, 0, 0, 1); echoTime(0, 0, 0) = UNKNOWN; element(0); echoTime(0, 0, 0) = 60; echoTime(1, 0, 0) = UNKNOWN
            echoTime(0, 1, 0) = UNKNOWN; echoTime(0, 0, 1) = UNKNOWN; echoTime(-1, 0, 0) = UNKNOWN; echoTime(0, -1, 0) = UNKNOWN
            echoTime(0, 0, -1) = UNKNOWN; echoTime(MIN, 0, 0) = UNKNOWN; echoTime(0, MIN, 0) = UNKNOWN; echoTime(0, 0, MIN) = UNKNOWN
            echoTime(MAX, 0, 0) = UNKNOWN; echoTime(0, MAX, 0) = UNKNOWN; echoTime(0, 0, MAX) = UNKNOWN; drop(); echoTime(0, 0, 0) = UNKNOWN
            """);
        Script.holds("10: the last of 8 ELEMENTS and of 8 TARGETS", """
            7 x element(0); element(50); 7 x target(2, 0, 0, 0, 1); target(0, 50, 0, 3, 1); echoTime(7, 7, 7) = 6; echoTime(8, 7, 7) = UNKNOWN
            echoTime(7, 8, 7) = UNKNOWN; echoTime(7, 7, 8) = UNKNOWN; lose(7, true); echoTime(7, 7, 7) = 6; echoTime(6, 7, 7) = 53
            """);
    }

    private static void slowness() {
        Script.holds("11: The slowness V (1 .. 8)", """
            body(0, 10, 1, 4); element(25); slowness(0, 0, 20) = 1; slowness(0, 0, 19) = 1; slowness(0, 0, 0) = 1; slowness(0, 0, 160) = 8
            slowness(0, 0, 161) = 8; slowness(0, 0, 4001) = 8; slowness(0, 0, MAX) = 8; total(6) = 10; time(0, 25, 10) = 40
            """);
        Script.holds("11: by a WALL, from 0 to 50, be there one or not", """
            body(0, 1, 8, 1); element(0); element(50); slowness(0, 0, 10) = 5; slowness(1, 1, 10) = 5; target(2, 0, 0, 0, 1); slowness(0, 0, 16) = 8
            slowness(1, 1, 16) = 8; lose(0, true); slowness(0, 0, 2) = 1
            """);
        Script.holds("11: of like near ones the least", """
            body(0, 10, 1, 4); element(25); slowness(0, 0, 29) = 1; slowness(0, 0, 30) = 1; slowness(0, 0, 31) = 2; slowness(0, 0, 150) = 7
            slowness(0, 0, 151) = 8; slowness(0, 0, 149) = 7
            """);
        Script.holds("11: UNKNOWN", """
            slowness(0, 0, 5) = UNKNOWN; element(25); slowness(1, 0, 5) = UNKNOWN; slowness(0, 1, 5) = UNKNOWN; slowness(-1, 0, 5) = UNKNOWN
            slowness(0, -1, 5) = UNKNOWN; slowness(MIN, 0, 5) = UNKNOWN; slowness(0, MAX, 5) = UNKNOWN; 7 x element(0); slowness(7, 7, 60) = 1
            slowness(8, 7, 60) = UNKNOWN; slowness(7, 8, 60) = UNKNOWN
            """);
        Script.holds("11: BAD: below 0, UNKNOWN ahead of it", """
            element(25); slowness(0, 0, 0) = 1; slowness(0, 0, -1) = BAD; slowness(0, 0, MIN) = BAD; slowness(1, 0, -1) = UNKNOWN
            slowness(0, 1, -1) = UNKNOWN
            """);
    }
}

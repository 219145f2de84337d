/** Each sentence of the document's terms that names a bound: the last that is taken, the first that is not. */
public final class TermsEdgeTest {
    public static void main(String[] args) {
        theBody();
        slowness();
        straightWays();
        elements();
        timeAndBend();
        targets();
        echoes();
        focus();
        sheets();
        nearestBytes();
        nearestShorts();
        nearestInts();
        findings();
        Script.end();
    }

    private static void theBody() {
        Script.holds("x 0 .. 50", """
            element(0) = 0; element(50) = 1; element(-1) = BAD; element(51) = BAD; element(MIN) = BAD; element(MAX) = BAD
            total(0) = 2
            target(0, 0, 0, 5, 1) = 0; target(0, 50, 0, 5, 1) = 1
            target(0, -1, 0, 5, 1) = BAD; target(0, 51, 0, 5, 1) = BAD; target(0, MIN, 0, 5, 1) = BAD; target(0, MAX, 0, 5, 1) = BAD
            total(2) = 2
            time(0, 0, 0) = 0; time(0, 50, 0) = 50; time(0, -1, 0) = BAD; time(0, 51, 0) = BAD
            places(0) = 1581; place(0, 0) = 0; place(0, 50) = 50000; place(0, 51) = 1
            """);
        Script.holds("THE WEDGE from 0 to W (0 .. 20)", """
            body(20, 30, 1, 1) = 50; body(21, 30, 1, 1) = BAD; body(MAX, 30, 1, 1) = BAD; total(6) = 50
            body(0, 30, 1, 1) = 30; body(-1, 30, 1, 1) = BAD; body(MIN, 30, 1, 1) = BAD; total(6) = 30
            """);
        Script.holds("THE PLATE, P deep (1 .. 30)", """
            body(5, 30, 1, 1) = 35; body(5, 31, 1, 1) = BAD; body(5, MAX, 1, 1) = BAD; total(6) = 35
            body(5, 1, 1, 1) = 6; body(5, 0, 1, 1) = BAD; body(5, -1, 1, 1) = BAD; body(5, MIN, 1, 1) = BAD; total(6) = 6
            """);
        Script.holds("to THE FLOOR, W + P", """
            body(0, 1, 1, 1) = 1; total(6) = 1; body(20, 1, 1, 1) = 21; total(6) = 21
            body(0, 30, 1, 1) = 30; total(6) = 30; body(20, 30, 1, 1) = 50; total(6) = 50
            """);
        Script.holds("At first W is 0, P 30, U 1, V 1", """
            total(6) = 30; element(25) = 0; time(0, 25, 0) = 0; time(0, 25, 30) = 30; time(0, 25, 31) = BAD
            time(0, 0, 0) = 25; bend(0, 0, 1) = 1
            """);
    }

    private static void slowness() {
        Script.holds("Slowness (ticks a unit, 1 .. 8): U of THE WEDGE", """
            element(25); body(10, 10, 1, 3) = 20; time(0, 25, 10) = 10; body(10, 10, 8, 3) = 20; time(0, 25, 10) = 80
            body(10, 10, 0, 3) = BAD; body(10, 10, 9, 3) = BAD; body(10, 10, -1, 3) = BAD
            body(10, 10, MIN, 3) = BAD; body(10, 10, MAX, 3) = BAD
            time(0, 25, 10) = 80; time(0, 25, 20) = 110
            """);
        Script.holds("Slowness (ticks a unit, 1 .. 8): V of THE PLATE", """
            element(25); body(10, 10, 3, 1) = 20; time(0, 25, 20) = 40; body(10, 10, 3, 8) = 20; time(0, 25, 20) = 110
            body(10, 10, 3, 0) = BAD; body(10, 10, 3, 9) = BAD; body(10, 10, 3, -1) = BAD
            body(10, 10, 3, MIN) = BAD; body(10, 10, 3, MAX) = BAD
            time(0, 25, 20) = 110; time(0, 25, 10) = 30
            """);
    }

    private static void straightWays() {
        // 25 is a square; 80 and 24 are one below one, 65 is one above.
        Script.holds("the greatest whole number whose square is k k (dx dx + dy dy) at most", """
            element(0); time(0, 0, 0) = 0; time(0, 3, 4) = 5; time(0, 4, 8) = 8; time(0, 1, 8) = 8; time(0, 1, 1) = 1
            body(0, 30, 8, 2); time(0, 3, 4) = 10; time(0, 4, 8) = 17
            body(0, 30, 8, 7); time(0, 1, 1) = 9
            body(0, 30, 8, 8); time(0, 1, 1) = 11; time(0, 3, 4) = 40; time(0, 50, 30) = 466; time(0, 50, 0) = 400
            """);
        Script.holds("of a way through both each part is so many ticks", """
            element(0); body(1, 1, 1, 1); time(0, 2, 2) = 2; body(1, 1, 8, 8); time(0, 2, 2) = 22
            body(20, 30, 8, 8); time(0, 0, 50) = 400; time(0, 50, 50) = 565
            """);
    }

    private static void elements() {
        Script.holds("ELEMENTS 0, 1, .. (8 at most)", """
            total(0) = 0; element(0) = 0; element(50) = 1; element(0) = 2; element(1) = 3; element(2) = 4; element(3) = 5
            element(4) = 6; total(0) = 7; element(5) = 7; total(0) = 8; element(6) = FULL; total(0) = 8
            time(7, 5, 0) = 0; time(6, 4, 0) = 0; time(8, 5, 0) = UNKNOWN
            """);
        Script.holds("each WORKS (at first) or is LOST", """
            element(3); total(1) = 1; lose(0, true) = 0; total(1) = 0; lose(0, true) = 0; lose(0, false) = 1; lose(0, false) = 1
            total(1) = 1; total(0) = 1
            """);
    }

    private static void timeAndBend() {
        Script.holds("a place x, y of THE PLATE (whole x, y; W to THE FLOOR)", """
            body(10, 20, 1, 1); element(25); time(0, 25, 10) = 10; time(0, 25, 9) = BAD; time(0, 25, 30) = 30; time(0, 25, 31) = BAD
            time(0, 25, MIN) = BAD; time(0, 25, MAX) = BAD
            body(0, 1, 1, 1); time(0, 25, 0) = 0; time(0, 25, -1) = BAD; time(0, 25, 1) = 1; time(0, 25, 2) = BAD
            body(20, 30, 1, 1); time(0, 25, 20) = 20; time(0, 25, 19) = BAD; time(0, 25, 50) = 50; time(0, 25, 51) = BAD
            """);
        Script.holds("the least, over whole b from 0 to 50", """
            body(0, 1, 8, 8); element(0); element(50); element(3); time(0, 0, 1) = 8; bend(0, 0, 1) = 0
            time(1, 50, 1) = 8; bend(1, 50, 1) = 50; time(0, 50, 0) = 400; time(1, 0, 0) = 400
            body(20, 20, 1, 1); time(2, 3, 40) = 40; bend(2, 3, 40) = 0
            """);
        // A dx of 6 is rounded away (436 is below 441), one of 7 is not.
        Script.holds("the least such b is the BEND", """
            body(20, 20, 1, 1); element(25); element(50); bend(0, 25, 40) = 19; bend(1, 50, 40) = 44
            body(0, 1, 1, 1); bend(0, 25, 0) = 25; bend(0, 0, 0) = 0; bend(0, 50, 0) = 25; bend(0, 0, 1) = 1
            """);
    }

    private static void targets() {
        Script.holds("TARGETS 0, 1, .. (8 at most)", """
            total(2) = 0; target(0, 1, 0, 1, 1) = 0; target(1, 1, 2, 1, 1) = 1; target(2, 0, 0, 0, 1) = 2; target(0, 1, 0, 1, 1) = 3
            target(0, 1, 0, 1, 1) = 4; target(0, 1, 0, 1, 1) = 5; target(0, 1, 0, 1, 1) = 6; total(2) = 7
            target(0, 9, 0, 1, 1) = 7; total(2) = 8
            target(0, 1, 0, 1, 1) = FULL; target(1, 1, 2, 1, 1) = FULL; target(2, 0, 0, 0, 1) = FULL; total(2) = 8
            taken(7, 0, 1) = 9; taken(8, 0, 1) = UNKNOWN; drop() = 7; target(2, 0, 0, 0, 1) = 7; target(2, 0, 0, 0, 1) = FULL
            """);
        Script.holds("a STRENGTH (-1000 .. 1000)", """
            target(0, 1, 0, 1, 1000) = 0; target(0, 1, 0, 1, 1001) = BAD; target(0, 1, 0, 1, -1000) = 1; target(0, 1, 0, 1, -1001) = BAD
            target(1, 1, 2, 1, 1000) = 2; target(1, 1, 2, 1, 1001) = BAD; target(1, 1, 2, 1, -1000) = 3; target(1, 1, 2, 1, -1001) = BAD
            target(2, 0, 0, 0, 1000) = 4; target(2, 0, 0, 0, 1001) = BAD; target(2, 0, 0, 0, -1000) = 5; target(2, 0, 0, 0, -1001) = BAD
            target(0, 1, 0, 1, MIN) = BAD; target(1, 1, 2, 1, MAX) = BAD; target(2, 0, 0, 0, MIN) = BAD; target(2, 0, 0, 0, MAX) = BAD
            target(0, 1, 0, 1, 0) = 6; total(2) = 7
            taken(0, 0, 0) = 1000; taken(1, 0, 0) = -1000; taken(4, 2, 0) = 1000; taken(5, 2, 0) = -1000; taken(6, 0, 0) = 0
            """);
        Script.holds("a BAR from x to z (x at most z) at y", """
            target(1, 7, 7, 5, 1) = 0; target(1, 8, 7, 5, 1) = BAD; target(1, 0, 50, 5, 1) = 1; target(1, 50, 50, 5, 1) = 2
            target(1, 0, 0, 5, 1) = 3; target(1, 50, 49, 5, 1) = BAD; target(1, 0, -1, 5, 1) = BAD; target(1, 0, 51, 5, 1) = BAD
            target(1, 0, MIN, 5, 1) = BAD; target(1, 0, MAX, 5, 1) = BAD; target(1, MIN, MIN, 5, 1) = BAD; target(1, MAX, MAX, 5, 1) = BAD
            target(1, -1, 5, 5, 1) = BAD; target(1, 51, 51, 5, 1) = BAD; total(2) = 4
            """);
        Script.holds("a BAR: a POINT, too", """
            target(1, 7, 9, 5, 3); taken(0, 0, 0) = 3; taken(0, 0, 1) = 7; taken(0, 0, 2) = 5
            """);
        Script.holds("a WALL: a BAR from 0 to 50 at THE FLOOR", """
            body(5, 10, 1, 1); target(2, 7, 3, 99, 3); taken(0, 1, 1) = 0; taken(0, 1, 3) = 50; taken(0, 1, 2) = 15; taken(0, 1, 0) = 3
            body(0, 1, 8, 8); element(0); element(50); echoTime(0, 0, 0) = 16; echoTime(1, 1, 0) = 16
            """);
    }

    private static void echoes() {
        // At depth 0 and 8 ticks a unit only the places from 10 to 20 themselves take 0.
        Script.holds("The ECHO TIME: the least, over its places, of the TIMES of a and b to it together", """
            body(0, 1, 8, 8); element(10); element(20); element(9); element(21); element(0); element(30); target(1, 10, 20, 0, 1)
            echoTime(0, 0, 0) = 0; echoTime(1, 1, 0) = 0; echoTime(2, 2, 0) = 16; echoTime(3, 3, 0) = 16; echoTime(0, 1, 0) = 80
            echoTime(4, 5, 0) = 240; echoTime(5, 4, 0) = 240; echoTime(4, 4, 0) = 160
            """);
        Script.holds("ECHO: the STRENGTHS of all TARGETS whose ECHO TIME is that tick, together", """
            body(0, 10, 1, 1); element(25); echo(0, 0, 20) = 0; 8 x target(2, 0, 0, 0, 1000); echo(0, 0, 20) = 8000
            echo(0, 0, 19) = 0; echo(0, 0, 21) = 0; 8 x drop(); echo(0, 0, 20) = 0
            8 x target(2, 0, 0, 0, -1000); echo(0, 0, 20) = -8000
            4 x drop(); 4 x target(2, 0, 0, 0, 1000); echo(0, 0, 20) = 0
            """);
        Script.holds("ECHO: 0, if a or b is LOST", """
            body(0, 10, 1, 1); element(25); element(25); target(2, 0, 0, 0, 9)
            echo(0, 1, 20) = 9; lose(0, true); echo(0, 1, 20) = 0; echo(1, 0, 20) = 0; echo(0, 0, 20) = 0; echo(1, 1, 20) = 9
            lose(1, true); echo(1, 1, 20) = 0; lose(0, false); echo(0, 0, 20) = 9; echo(0, 1, 20) = 0; echo(1, 0, 20) = 0
            """);
    }

    private static void focus() {
        Script.holds("DELAY: the greatest TIME of those that WORK to the place, less its own", """
            body(0, 10, 1, 1); element(20); element(25); element(50); focus(20, 0) = 30
            delay(0) = 30; delay(1) = 25; delay(2) = 0; lose(2, true); focus(20, 0) = 5; delay(0) = 5; delay(1) = 0; delay(2) = NONE
            """);
        Script.holds("There is none at first", """
            total(7) = 0; sum(0) = STATE; element(0); delay(0) = STATE; heard(0, 0) = STATE; sum(0) = STATE; total(7) = 0
            """);
        Script.holds("what changes THE BODY ends it", """
            element(0); focus(0, 0) = 0; total(7) = 1; body(0, 30, 1, 2) = 30; total(7) = 0; delay(0) = STATE
            focus(0, 0) = 0; body(0, 30, 2, 2); total(7) = 0; focus(0, 0); body(0, 29, 2, 2); total(7) = 0
            focus(0, 0); body(1, 28, 2, 2); total(7) = 0
            """);
        Script.holds("what changes ELEMENTS (also that are LOST) ends it", """
            element(0); focus(0, 0) = 0; element(1) = 1; total(7) = 0; heard(0, 0) = STATE; focus(0, 0) = 1
            lose(1, true) = 1; total(7) = 0; sum(0) = STATE; focus(0, 0) = 0; lose(1, false) = 2; total(7) = 0; delay(0) = STATE
            """);
        Script.holds("nothing else ends it", """
            element(0); focus(3, 0) = 3; target(2, 0, 0, 0, 1); drop(); tell(0, 0, 1); forget(); sheet(0, 0, 1); tear(0); tear(6)
            time(0, 0, 0); board(0, 0); places(0); slowness(0, 0, 0); total(7) = 1; delay(0) = 0
            body(21, 30, 1, 1) = BAD; element(51) = BAD; lose(1, true) = UNKNOWN; lose(-1, false) = UNKNOWN; focus(0, 31) = BAD
            target(0, 0, 0, 3, 1); body(4, 20, 1, 1) = STATE; total(7) = 1; delay(0) = 0
            7 x element(0); element(0) = FULL; total(7) = 0; focus(0, 0); element(0) = FULL; total(7) = 1
            """);
    }

    private static void sheets() {
        Script.holds("SHEETS 0 .. 5: MISSING (at first)", """
            total(5) = 0; tear(0) = 1; tear(1) = 1; tear(2) = 1; tear(3) = 1; tear(4) = 1; tear(5) = 1; tear(-1) = PLACE; tear(6) = PLACE
            tear(MIN) = PLACE; tear(MAX) = PLACE; sheet(0, 0, 1) = 1; sheet(1, 0, 1) = 1; sheet(2, 0, 1) = 1; sheet(3, 0, 1) = 1
            sheet(4, 0, 1) = 1; total(5) = 5; sheet(5, 0, 1) = 1; total(5) = 6; sheet(6, 0, 1) = PLACE; total(5) = 6
            """);
        Script.holds("rows of 0 .. 64 numbers", """
            sheet(0, 0, 0) = 0; total(5) = 1; at(0, 0) = PLACE; sheet(0, 0, -1) = SIZE; sheet(0, 0, MIN) = SIZE; at(0, 0) = PLACE
            sheet(0, 0, 64) = 64; at(0, 63) = 0; at(0, 64) = PLACE; sheet(0, 0, 65) = BAD; sheet(0, 0, MAX) = BAD; at(0, 63) = 0
            sheet(0, 0, 1) = 1; at(0, 0) = 0; at(0, 1) = PLACE
            """);
        Script.holds("a LANE: 0 bytes, 1 shorts, 2 ints", """
            sheet(0, 0, 1) = 1; sheet(1, 1, 1) = 1; sheet(2, 2, 1) = 1; sheet(3, 3, 1) = BAD; sheet(3, -1, 1) = BAD
            sheet(3, MIN, 1) = BAD; sheet(3, MAX, 1) = BAD; at(3, 0) = NULL; total(5) = 3
            """);
    }

    private static void nearestBytes() {
        Script.holds("a number comes in as what the LANE has that is nearest to it: bytes", """
            body(0, 10, 1, 1); element(25); sheet(0, 0, 1)
            target(2, 0, 0, 0, 127); record(0, 0, 0, 20); at(0, 0) = 127; drop(); target(2, 0, 0, 0, 128); record(0, 0, 0, 20); at(0, 0) = 127
            drop(); target(2, 0, 0, 0, 1000); record(0, 0, 0, 20); at(0, 0) = 127
            drop(); target(2, 0, 0, 0, 126); record(0, 0, 0, 20); at(0, 0) = 126
            sheet(1, 0, 1); drop(); target(2, 0, 0, 0, 1); record(1, 0, 0, 20); at(1, 0) = 1
            add(1, 0, 0) = 1; at(0, 0) = 127; add(1, 0, 0) = 1; at(0, 0) = 127
            drop(); target(2, 0, 0, 0, -128); record(0, 0, 0, 20); at(0, 0) = -128
            drop(); target(2, 0, 0, 0, -129); record(0, 0, 0, 20); at(0, 0) = -128
            drop(); target(2, 0, 0, 0, -1000); record(0, 0, 0, 20); at(0, 0) = -128
            drop(); target(2, 0, 0, 0, -127); record(0, 0, 0, 20); at(0, 0) = -127
            drop(); target(2, 0, 0, 0, -1); record(1, 0, 0, 20); at(1, 0) = -1
            add(1, 0, 0) = 1; at(0, 0) = -128; add(1, 0, 0) = 1; at(0, 0) = -128
            """);
    }

    private static void nearestShorts() {
        Script.holds("a number comes in as what the LANE has that is nearest to it: shorts", """
            body(0, 10, 1, 1); element(25); sheet(0, 1, 1); sheet(1, 1, 1); 8 x target(2, 0, 0, 0, 1000)
            record(0, 0, 0, 20); at(0, 0) = 8000; 2 x add(0, 0, 0) = 1; at(0, 0) = 32000; 8 x drop()
            target(2, 0, 0, 0, 767); record(1, 0, 0, 20); add(1, 0, 0) = 1; at(0, 0) = 32767
            add(1, 0, 0) = 1; at(0, 0) = 32767; drop(); target(2, 0, 0, 0, 1); record(1, 0, 0, 20); add(1, 0, 0) = 1; at(0, 0) = 32767
            drop(); 8 x target(2, 0, 0, 0, -1000)
            record(0, 0, 0, 20); at(0, 0) = -8000; 2 x add(0, 0, 0) = 1; at(0, 0) = -32000; 8 x drop()
            target(2, 0, 0, 0, -768); record(1, 0, 0, 20); add(1, 0, 0) = 1; at(0, 0) = -32768
            add(1, 0, 0) = 1; at(0, 0) = -32768; drop(); target(2, 0, 0, 0, -1); record(1, 0, 0, 20); add(1, 0, 0) = 1; at(0, 0) = -32768
            """);
    }

    private static void nearestInts() {
        Script.holds("a number comes in as what the LANE has that is nearest to it: ints, above", """
            body(0, 10, 1, 1); element(25); sheet(0, 2, 1); sheet(1, 2, 1); sheet(2, 2, 1); sheet(3, 0, 1); sheet(4, 1, 1)
            target(2, 0, 0, 0, 1); record(0, 0, 0, 20); 30 x add(0, 0, 0) = 1; at(0, 0) = 1073741824; copy(0, 0, 1, 0, 1) = 1
            drop(); target(2, 0, 0, 0, -1); record(2, 0, 0, 20); add(2, 0, 0) = 1; at(0, 0) = 1073741823
            add(1, 0, 0) = 1; at(0, 0) = MAX; drop(); target(2, 0, 0, 0, 1); record(2, 0, 0, 20)
            add(2, 0, 0) = 1; at(0, 0) = MAX; add(0, 0, 0) = 1; at(0, 0) = MAX
            add(0, 3, 0) = 1; at(3, 0) = 127; add(0, 3, 0) = 1; at(3, 0) = 127; add(0, 4, 0) = 1; at(4, 0) = 32767
            """);
        Script.holds("a number comes in as what the LANE has that is nearest to it: ints, below", """
            body(0, 10, 1, 1); element(25); sheet(0, 2, 1); sheet(2, 2, 1); sheet(3, 0, 1); sheet(4, 1, 1)
            target(2, 0, 0, 0, -1); record(0, 0, 0, 20); record(2, 0, 0, 20); 30 x add(0, 0, 0) = 1; at(0, 0) = -1073741824
            add(0, 0, 0) = 1; at(0, 0) = MIN; add(2, 0, 0) = 1; at(0, 0) = MIN; add(0, 0, 0) = 1; at(0, 0) = MIN
            add(0, 3, 0) = 1; at(3, 0) = -128; add(0, 3, 0) = 1; at(3, 0) = -128; add(0, 4, 0) = 1; at(4, 0) = -32768
            """);
    }

    private static void findings() {
        Script.holds("NULL (a SHEET that is MISSING), counted", """
            element(0); at(0, 0) = NULL; total(4) = 1; peak(0) = NULL; total(4) = 2; record(0, 0, 0, 0) = NULL; total(4) = 3
            add(0, 0, 0) = NULL; total(4) = 4; copy(0, 0, 0, 0, 0) = NULL; total(4) = 5; tear(0) = 1; total(4) = 5
            """);
        Script.holds("PLACE (no SHEET 0 .. 5, no such place of a row), counted", """
            element(0); sheet(6, 0, 0) = PLACE; total(4) = 1; tear(-1) = PLACE; total(4) = 2; record(6, 0, 0, 0) = PLACE; total(4) = 3
            add(6, 0, 0) = PLACE; total(4) = 4; add(0, 6, 0) = PLACE; total(4) = 5; copy(-1, 0, 0, 0, 0) = PLACE; total(4) = 6
            copy(0, 0, -1, 0, 0) = PLACE; total(4) = 7; at(6, 0) = PLACE; total(4) = 8; peak(6) = PLACE; total(4) = 9
            sheet(0, 0, 1); at(0, 1) = PLACE; total(4) = 10; copy(0, 0, 0, 0, 2) = PLACE; total(4) = 11; add(6, 6, 0) = PLACE; total(4) = 12
            """);
        Script.holds("CAST (a TARGET of another KIND, SHEETS of unlike LANES), counted", """
            target(0, 0, 0, 0, 1); target(1, 0, 0, 0, 1); taken(0, 1, 0) = CAST; total(4) = 1; taken(0, 2, 0) = CAST; total(4) = 2
            taken(1, 2, 0) = CAST; total(4) = 3; sheet(0, 0, 1); sheet(1, 1, 1); sheet(2, 2, 1)
            copy(0, 0, 1, 0, 1) = CAST; total(4) = 4; copy(1, 0, 2, 0, 1) = CAST; copy(2, 0, 0, 0, 1) = CAST; total(4) = 6
            """);
        Script.holds("SIZE (a row of below 0), counted", """
            sheet(0, 0, -1) = SIZE; total(4) = 1; sheet(0, 0, MIN) = SIZE; total(4) = 2; sheet(0, 0, 0); copy(0, 0, 0, 0, -1) = SIZE; total(4) = 3
            """);
        Script.holds("REFUSALS are not counted, nor is NONE", """
            body(21, 1, 1, 1) = BAD; element(51) = BAD; lose(0, true) = UNKNOWN; drop() = STATE; taken(0, 0, 0) = UNKNOWN; focus(0, 0) = STATE
            sum(0) = STATE; places(101) = BAD; place(0, -1) = NONE; sheet(0, 3, 0) = BAD; total(8) = BAD; sheet(0, 0, 0); peak(0) = NONE
            8 x element(0); element(0) = FULL; total(4) = 0
            """);
        Script.holds("each is counted", """
            500 x tear(6) = PLACE; total(4) = 500
            """);
    }
}

/** Promises 12 to 22, each sentence that names a bound, a refusal, or what is answered of none. */
public final class EchoEdgeTest {
    public static void main(String[] args) {
        echo();
        gate();
        gateBounds();
        focus();
        delay();
        heard();
        sum();
        board();
        tell();
        forget();
        places();
        place();
        Script.end();
    }

    private static void echo() {
        Script.holds("12: at a tick (any; 0 where none is)", """
            element(25); echo(0, 0, 0) = 0; target(0, 25, 0, 0, 7); echo(0, 0, 0) = 7; echo(0, 0, 1) = 0; echo(0, 0, -1) = 0
            echo(0, 0, MIN) = 0; echo(0, 0, MAX) = 0; echo(0, 0, 4001) = 0
            """);
        Script.holds("12: the greatest tick there is one at", """
            body(20, 30, 8, 8); element(0); target(0, 50, 0, 50, 7); echoTime(0, 0, 0) = 1130; echo(0, 0, 1130) = 7; echo(0, 0, 1131) = 0
            gate(0, 0, 1130, 4000, 1) = 1130; gate(0, 0, 1131, 4000, 1) = NONE
            """);
        Script.holds("12: UNKNOWN", """
            echo(0, 0, 0) = UNKNOWN; element(25); echo(1, 0, 0) = UNKNOWN; echo(0, 1, 0) = UNKNOWN; echo(-1, 0, 0) = UNKNOWN
            echo(0, -1, 0) = UNKNOWN; echo(MIN, 0, 0) = UNKNOWN; echo(0, MAX, 0) = UNKNOWN; 7 x element(0); echo(7, 7, 0) = 0
            echo(8, 7, 0) = UNKNOWN; echo(7, 8, 0) = UNKNOWN
            """);
    }

    private static void gate() {
        Script.holds("13: The first tick of from to to", """
            element(25); target(0, 25, 0, 10, 5); target(0, 25, 0, 5, 6); gate(0, 0, 0, 4000, 1) = 10; gate(0, 0, 10, 10, 1) = 10
            gate(0, 0, 0, 10, 1) = 10; gate(0, 0, 0, 9, 1) = NONE; gate(0, 0, 10, 20, 1) = 10; gate(0, 0, 11, 20, 1) = 20; gate(0, 0, 11, 19, 1) = NONE
            gate(0, 0, 20, 20, 1) = 20; gate(0, 0, 21, 4000, 1) = NONE
            """);
        Script.holds("13: whose ECHO is least or more", """
            element(25); target(0, 25, 0, 10, 5); gate(0, 0, 0, 40, 4) = 20; gate(0, 0, 0, 40, 5) = 20; gate(0, 0, 0, 40, 6) = NONE
            target(0, 25, 0, 10, 995); gate(0, 0, 0, 40, 1000) = 20; gate(0, 0, 0, 40, 1001) = NONE; gate(0, 0, 0, 40, MAX) = NONE
            """);
        Script.holds("13: or less than or like - least", """
            element(25); target(0, 25, 0, 10, -5); gate(0, 0, 0, 40, 4) = 20; gate(0, 0, 0, 40, 5) = 20; gate(0, 0, 0, 40, 6) = NONE
            target(0, 25, 0, 10, -995); gate(0, 0, 0, 40, 1000) = 20; gate(0, 0, 0, 40, 1001) = NONE; gate(0, 0, 0, 40, MAX) = NONE
            """);
        Script.holds("13: NONE: without TARGETS, of 0 together, of a LOST one", """
            element(25); element(25); gate(0, 0, 0, 4000, 1) = NONE; target(2, 0, 0, 0, 5); target(2, 0, 0, 0, -5); gate(0, 0, 0, 4000, 1) = NONE
            drop(); gate(0, 1, 0, 4000, 1) = 60; lose(1, true); gate(0, 1, 0, 4000, 1) = NONE; gate(1, 0, 0, 4000, 1) = NONE
            gate(0, 0, 0, 4000, 1) = 60
            """);
    }

    private static void gateBounds() {
        Script.holds("13: BAD: from is not 0 .. to", """
            element(25); target(0, 25, 0, 0, 5); gate(0, 0, 0, 0, 1) = 0; gate(0, 0, -1, 0, 1) = BAD; gate(0, 0, 1, 0, 1) = BAD
            gate(0, 0, 7, 7, 1) = NONE; gate(0, 0, 8, 7, 1) = BAD; gate(0, 0, MIN, 7, 1) = BAD; gate(0, 0, MAX, 7, 1) = BAD
            gate(0, 0, 0, -1, 1) = BAD; gate(0, 0, -1, -1, 1) = BAD; gate(0, 0, 0, MIN, 1) = BAD; gate(0, 0, MIN, MIN, 1) = BAD
            """);
        Script.holds("13: BAD: to above 4000", """
            element(25); gate(0, 0, 0, 4000, 1) = NONE; gate(0, 0, 0, 4001, 1) = BAD; gate(0, 0, 4000, 4000, 1) = NONE
            gate(0, 0, 4001, 4001, 1) = BAD; gate(0, 0, 0, MAX, 1) = BAD; gate(0, 0, MAX, MAX, 1) = BAD
            """);
        Script.holds("13: BAD: least below 1", """
            element(25); target(0, 25, 0, 0, 1); gate(0, 0, 0, 9, 1) = 0; gate(0, 0, 0, 9, 0) = BAD; gate(0, 0, 0, 9, -1) = BAD; gate(0, 0, 0, 9, MIN) = BAD
            """);
        Script.holds("13: UNKNOWN, ahead of BAD", """
            gate(0, 0, 0, 9, 1) = UNKNOWN; element(25); gate(1, 0, 0, 9, 1) = UNKNOWN; gate(0, 1, 0, 9, 1) = UNKNOWN; gate(-1, 0, 0, 9, 1) = UNKNOWN
            gate(0, -1, 0, 9, 1) = UNKNOWN; gate(MIN, 0, 0, 9, 1) = UNKNOWN; gate(0, MAX, 0, 9, 1) = UNKNOWN; gate(1, 0, 9, 0, 0) = UNKNOWN
            gate(0, 1, 0, 4001, 1) = UNKNOWN; gate(0, 1, 0, 9, 0) = UNKNOWN; 7 x element(0); gate(7, 7, 0, 9, 1) = NONE
            gate(8, 7, 0, 9, 1) = UNKNOWN; gate(7, 8, 0, 9, 1) = UNKNOWN
            """);
    }

    private static void focus() {
        Script.holds("14: the greatest TIME of those that WORK", """
            body(0, 10, 1, 1); element(0); element(50); focus(10, 0) = 40; focus(0, 0) = 50; lose(1, true); focus(10, 0) = 10; focus(0, 0) = 0
            lose(1, false); lose(0, true); focus(50, 0) = 0; focus(50, 10) = 10
            """);
        Script.holds("14: BAD: no place of THE PLATE", """
            element(25); body(5, 6, 1, 1); focus(25, 5) = 5; focus(25, 4) = BAD; focus(25, 11) = 11; focus(25, 12) = BAD; focus(0, 5) = 25
            focus(-1, 5) = BAD; focus(50, 5) = 25; focus(51, 5) = BAD; focus(MIN, 5) = BAD; focus(MAX, 5) = BAD; focus(25, MIN) = BAD; focus(25, MAX) = BAD
            """);
        Script.holds("14: STATE: none WORKS, BAD ahead of it", """
            focus(0, 0) = STATE; focus(51, 0) = BAD; focus(0, 31) = BAD; element(0); focus(0, 0) = 0; lose(0, true); focus(0, 0) = STATE
            focus(0, -1) = BAD; total(7) = 0
            """);
        Script.holds("14: another FOCUS takes the place of the first", """
            element(0); element(50); focus(0, 0) = 50; delay(0) = 50; delay(1) = 0; focus(50, 0) = 50; delay(0) = 0; delay(1) = 50; total(7) = 1
            """);
    }

    private static void delay() {
        Script.holds("15: NONE: it is LOST", """
            element(0); element(5); lose(0, true); focus(0, 0) = 5; delay(0) = NONE; delay(1) = 0
            """);
        Script.holds("15: UNKNOWN", """
            delay(0) = UNKNOWN; element(0); focus(0, 0); delay(0) = 0; delay(1) = UNKNOWN; delay(-1) = UNKNOWN; delay(MIN) = UNKNOWN
            delay(MAX) = UNKNOWN; 7 x element(3); focus(0, 0) = 3; delay(7) = 0; delay(0) = 3; delay(8) = UNKNOWN
            """);
        Script.holds("15: STATE: there is no FOCUS, UNKNOWN ahead of it", """
            element(0); delay(0) = STATE; delay(1) = UNKNOWN; delay(-1) = UNKNOWN; lose(0, true); delay(0) = STATE
            """);
    }

    private static void heard() {
        Script.holds("16: ECHOES of each with it, at the tick less that one's DELAY", """
            body(0, 10, 1, 1); element(20); element(25); target(0, 20, 0, 0, 7); focus(20, 0) = 5; delay(0) = 5; delay(1) = 0
            heard(0, 5) = 14; heard(0, 4) = 0; heard(0, 6) = 0; heard(1, 10) = 14; heard(1, 9) = 0; heard(1, 11) = 0; heard(0, 0) = 0; heard(1, 5) = 0
            """);
        Script.holds("16: of 8 ELEMENTS and 8 TARGETS, together", """
            body(0, 10, 1, 1); 8 x element(25); 8 x target(2, 0, 0, 0, 1000); focus(25, 0); heard(0, 20) = 64000; heard(7, 20) = 64000
            lose(7, true); focus(25, 0); heard(0, 20) = 56000; heard(7, 20) = 0
            """);
        Script.holds("16: at any tick, below what an int holds, too", """
            body(0, 10, 1, 1); element(20); element(25); target(2, 0, 0, 0, 7); focus(20, 0) = 5; heard(0, MIN) = 0; heard(1, MIN) = 0
            heard(0, MAX) = 0; heard(1, MAX) = 0; heard(0, -1) = 0; heard(0, -2147483644) = 0
            """);
        Script.holds("16: none to hear", """
            element(20); focus(20, 0) = 0; heard(0, 0) = 0; target(0, 20, 0, 0, 7); heard(0, 0) = 7
            """);
        Script.holds("16: UNKNOWN, ahead of STATE", """
            heard(0, 0) = UNKNOWN; element(0); heard(0, 0) = STATE; heard(1, 0) = UNKNOWN; heard(-1, 0) = UNKNOWN; focus(0, 0); heard(0, 0) = 0
            heard(1, 0) = UNKNOWN; heard(-1, 0) = UNKNOWN; heard(MIN, 0) = UNKNOWN; heard(MAX, 0) = UNKNOWN; 7 x element(0); heard(7, 0) = STATE
            focus(0, 0); heard(7, 0) = 0; heard(8, 0) = UNKNOWN
            """);
    }

    private static void sum() {
        Script.holds("17: of each what it hears at the tick less its DELAY", """
            body(0, 10, 1, 1); element(20); element(25); target(0, 20, 0, 0, 7); focus(20, 0) = 5; sum(10) = 28; sum(9) = 0; sum(11) = 0
            sum(5) = 0; sum(0) = 0; lose(1, true); focus(20, 0) = 0; sum(0) = 7; sum(10) = 0
            """);
        Script.holds("17: of 8 ELEMENTS and 8 TARGETS, together", """
            body(0, 10, 1, 1); 8 x element(25); 8 x target(2, 0, 0, 0, 1000); focus(25, 0); sum(20) = 512000; sum(19) = 0; sum(21) = 0
            8 x drop(); 8 x target(2, 0, 0, 0, -1000); sum(20) = -512000; 8 x drop(); sum(20) = 0
            """);
        Script.holds("17: at any tick, below what an int holds, too", """
            body(0, 10, 1, 1); element(20); element(25); target(2, 0, 0, 0, 7); focus(20, 0) = 5; sum(MIN) = 0; sum(MAX) = 0; sum(-1) = 0
            sum(-2147483644) = 0; sum(-2147483639) = 0
            """);
        Script.holds("17: STATE", """
            sum(0) = STATE; element(0); sum(0) = STATE; focus(0, 0); sum(0) = 0; lose(0, true); sum(0) = STATE; sum(MIN) = STATE
            """);
    }

    private static void board() {
        Script.holds("18: Of all pairs a, b (a with itself, too; a, b and b, a)", """
            body(0, 10, 1, 1); element(20); element(25); element(30); target(0, 25, 0, 10, 7); board(25, 10) = 63; lose(0, true); board(25, 10) = 28
            lose(2, true); board(25, 10) = 7; lose(1, true); board(25, 10) = 0
            """);
        Script.holds("18: of 8 ELEMENTS and 8 TARGETS, together", """
            body(0, 10, 1, 1); 8 x element(25); 8 x target(2, 0, 0, 0, 1000); board(25, 10) = 512000; board(25, 9) = 0; 8 x drop()
            8 x target(2, 0, 0, 0, -1000); board(25, 10) = -512000
            """);
        Script.holds("18: without ELEMENTS, without TARGETS", """
            board(0, 0) = 0; target(2, 0, 0, 0, 9); board(0, 30) = 0; drop(); element(0); board(0, 0) = 0; board(0, 30) = 0
            """);
        Script.holds("18: BAD: no place", """
            element(25); body(5, 6, 1, 1); target(2, 0, 0, 0, 9); board(25, 11) = 9; board(25, 12) = BAD; board(25, 5) = 0; board(25, 4) = BAD
            board(0, 5) = 0; board(-1, 5) = BAD; board(50, 5) = 0; board(51, 5) = BAD; board(MIN, 5) = BAD; board(MAX, 5) = BAD
            board(25, MIN) = BAD; board(25, MAX) = BAD
            """);
    }

    private static void tell() {
        Script.holds("19: how many are told", """
            element(0); total(3) = 0; tell(0, 0, 1) = 1; tell(0, 0, 1) = 2; tell(0, 0, 1) = 3; total(3) = 3
            """);
        Script.holds("19: UNKNOWN, ahead of BAD and of FULL", """
            tell(0, 0, 0) = UNKNOWN; element(0); tell(1, 0, 0) = UNKNOWN; tell(0, 1, 0) = UNKNOWN; tell(-1, 0, 0) = UNKNOWN; tell(0, -1, 0) = UNKNOWN
            tell(MIN, 0, 0) = UNKNOWN; tell(0, MAX, 0) = UNKNOWN; tell(1, 0, -1) = UNKNOWN; tell(0, 1, 4001) = UNKNOWN; total(3) = 0
            6 x tell(0, 0, 0); tell(1, 0, 0) = UNKNOWN; tell(0, 1, -1) = UNKNOWN; 7 x element(0); tell(8, 7, 0) = UNKNOWN; tell(7, 8, 0) = UNKNOWN
            forget() = 6; tell(7, 7, 0) = 1
            """);
        Script.holds("19: BAD: tick is not 0 .. 4000", """
            element(0); tell(0, 0, 0) = 1; tell(0, 0, -1) = BAD; tell(0, 0, 4000) = 2; tell(0, 0, 4001) = BAD; tell(0, 0, MIN) = BAD
            tell(0, 0, MAX) = BAD; total(3) = 2
            """);
        Script.holds("19: FULL: 6, BAD ahead of it", """
            element(0); tell(0, 0, 0) = 1; tell(0, 0, 0) = 2; tell(0, 0, 0) = 3; tell(0, 0, 0) = 4; tell(0, 0, 0) = 5; tell(0, 0, 0) = 6
            tell(0, 0, 0) = FULL; tell(0, 0, 4000) = FULL; tell(0, 0, -1) = BAD; tell(0, 0, 4001) = BAD; total(3) = 6; places(0) = 1
            """);
        Script.holds("19: of a LOST one, too; the sixth is looked at", """
            element(0); lose(0, true); tell(0, 0, 100) = 1; 4 x tell(0, 0, 100); places(100) = 1581; tell(0, 0, 4000) = 6; places(100) = 0
            """);
    }

    private static void forget() {
        Script.holds("20: No times are told any more: how many were", """
            forget() = 0; element(0); tell(0, 0, 0); forget() = 1; total(3) = 0; forget() = 0; 6 x tell(0, 0, 4000); places(0) = 0; forget() = 6
            total(3) = 0; places(0) = 1581; tell(0, 0, 0) = 1; places(0) = 1; forget() = 1
            """);
    }

    private static void places() {
        Script.holds("21: no times told: every place of THE PLATE", """
            places(0) = 1581; places(100) = 1581; body(0, 1, 1, 1); places(0) = 102; body(20, 1, 8, 8); places(0) = 102; body(20, 30, 8, 8); places(0) = 1581
            """);
        // At depth 0 both TIMES are 16 x together, at depth 1 they are 16, 22, 34 ..
        Script.holds("21: no farther than so many ticks from it", """
            body(0, 1, 8, 8); element(0); tell(0, 0, 0); places(0) = 1; places(15) = 1; places(16) = 3; places(21) = 3; places(22) = 4
            forget(); tell(0, 0, 16); places(0) = 2; places(5) = 2; places(6) = 3; places(15) = 3; places(16) = 5; places(17) = 5; places(18) = 6
            """);
        Script.holds("21: for each told time", """
            body(0, 1, 8, 8); element(0); element(4); tell(0, 0, 32); places(0) = 1; tell(1, 1, 32); places(0) = 1; tell(0, 1, 32); places(0) = 1
            tell(0, 1, 33); places(0) = 0; places(1) = 1; tell(1, 0, 30); places(1) = 0; places(2) = 1; places(3) = 1; places(4) = 2
            """);
        Script.holds("21: (0 .. 100). BAD", """
            places(0) = 1581; places(-1) = BAD; places(100) = 1581; places(101) = BAD; places(MIN) = BAD; places(MAX) = BAD
            """);
        Script.holds("21: 100 ticks off, and one more", """
            body(0, 1, 8, 8); element(0); tell(0, 0, 900); places(100) = 2; forget(); tell(0, 0, 901); places(100) = 0
            """);
    }

    private static void place() {
        Script.holds("22: The i-th of them, by depth, then x: 1000 x and y", """
            body(0, 1, 8, 8); element(0); tell(0, 0, 16); place(16, 0) = 0; place(16, 1) = 1000; place(16, 2) = 2000; place(16, 3) = 1; place(16, 4) = 1001
            place(0, 0) = 1000; place(0, 1) = 1
            """);
        Script.holds("22: NONE", """
            body(0, 1, 8, 8); element(0); tell(0, 0, 16); place(16, 5) = NONE; place(16, -1) = NONE; place(16, MIN) = NONE; place(16, MAX) = NONE
            place(0, 2) = NONE; tell(0, 0, 4000); place(100, 0) = NONE; place(100, -1) = NONE
            """);
        Script.holds("22: the first and the last of all", """
            place(0, 0) = 0; place(0, 1580) = 50030; place(0, 1581) = NONE; body(20, 30, 1, 1); place(0, 0) = 20; place(0, 50) = 50020
            place(0, 51) = 21; place(0, 1580) = 50050; place(0, 1581) = NONE; body(20, 1, 1, 1); place(0, 101) = 50021; place(0, 102) = NONE
            """);
        Script.holds("22: BAD: within, ahead of NONE", """
            place(0, 0) = 0; place(-1, 0) = BAD; place(100, 0) = 0; place(101, 0) = BAD; place(MIN, 0) = BAD; place(MAX, 0) = BAD
            place(101, -1) = BAD; place(-1, MAX) = BAD
            """);
    }
}

/** Promises 23 to 30, each sentence that names a bound, a refusal or a finding. */
public final class SheetEdgeTest {
    /** Sheet 0 holds the shorts 1, 2, 3, 4; what sends them is gone. */
    private static final String COUNTED = """
        body(0, 10, 1, 1); element(25); target(0, 25, 0, 1, 1); target(0, 25, 0, 2, 2); target(0, 25, 0, 3, 3); target(0, 25, 0, 4, 4)
        sheet(1, 1, 7) = 7; record(1, 0, 0, 2) = 7; sheet(0, 1, 4) = 4
        copy(1, 0, 0, 0, 1) = 1; copy(1, 2, 0, 1, 1) = 1; copy(1, 4, 0, 2, 1) = 1; copy(1, 6, 0, 3, 1) = 1; 4 x drop(); tear(1) = 0
        at(0, 0) = 1; at(0, 1) = 2; at(0, 2) = 3; at(0, 3) = 4
        """;

    public static void main(String[] args) {
        sheet();
        sheetOrder();
        tear();
        record();
        recordTicks();
        add();
        addFindings();
        copy();
        copyBeyond();
        copyOrder();
        at();
        peak();
        total();
        Script.end();
    }

    private static void sheet() {
        Script.holds("23: A SHEET is a row of n numbers 0: n", """
            sheet(0, 0, 64) = 64; at(0, 0) = 0; at(0, 63) = 0; at(0, 64) = PLACE; sheet(5, 2, 0) = 0; peak(5) = NONE; at(5, 0) = PLACE
            sheet(2, 1, 1) = 1; at(2, 0) = 0; at(2, 1) = PLACE
            """);
        Script.holds("23: one that is there is a row of 0 again, of the new LANE", COUNTED + """
            sheet(0, 1, 4) = 4; at(0, 0) = 0; at(0, 3) = 0; total(5) = 1; sheet(0, 2, 2) = 2; at(0, 1) = 0; at(0, 2) = PLACE; total(5) = 1
            sheet(1, 2, 2); copy(0, 0, 1, 0, 2) = 2; sheet(1, 1, 2); copy(0, 0, 1, 0, 2) = CAST
            """);
        Script.holds("23: PLACE: the SHEET", """
            sheet(0, 0, 1) = 1; sheet(-1, 0, 1) = PLACE; sheet(5, 0, 1) = 1; sheet(6, 0, 1) = PLACE; sheet(MIN, 0, 1) = PLACE; sheet(MAX, 0, 1) = PLACE
            total(5) = 2; total(4) = 4
            """);
        Script.holds("23: BAD: lane, n above 64", """
            sheet(0, 0, 1) = 1; sheet(0, -1, 1) = BAD; sheet(0, 2, 1) = 1; sheet(0, 3, 1) = BAD; sheet(0, MIN, 1) = BAD; sheet(0, MAX, 1) = BAD
            sheet(0, 0, 64) = 64; sheet(0, 0, 65) = BAD; sheet(0, 0, MAX) = BAD; at(0, 63) = 0; total(4) = 0
            """);
        Script.holds("23: SIZE", """
            sheet(0, 0, 0) = 0; sheet(0, 0, -1) = SIZE; sheet(0, 2, MIN) = SIZE; total(4) = 2; total(5) = 1; sheet(1, 1, -1) = SIZE; total(5) = 1
            """);
    }

    private static void sheetOrder() {
        Script.holds("23: PLACE ahead of BAD ahead of SIZE", """
            sheet(6, 3, 1) = PLACE; sheet(6, 0, 65) = PLACE; sheet(6, 0, -1) = PLACE; sheet(-1, 3, 65) = PLACE; total(4) = 4
            sheet(0, 3, -1) = BAD; sheet(0, -1, MIN) = BAD; sheet(0, 3, 65) = BAD; total(4) = 4; sheet(0, 0, -1) = SIZE; total(4) = 5
            """);
    }

    private static void tear() {
        Script.holds("24: whether it was: 1, 0", """
            tear(0) = 1; tear(5) = 1; sheet(0, 0, 0); sheet(5, 0, 64); total(5) = 2; tear(0) = 0; total(5) = 1; tear(5) = 0; total(5) = 0
            tear(0) = 1; tear(5) = 1; at(5, 0) = NULL; total(4) = 1
            """);
        Script.holds("24: PLACE", """
            tear(-1) = PLACE; tear(6) = PLACE; tear(MIN) = PLACE; tear(MAX) = PLACE; total(4) = 4
            """);
        Script.holds("24: a SHEET made anew holds nothing of the torn one", COUNTED + """
            tear(0) = 0; sheet(0, 2, 4) = 4; at(0, 0) = 0; at(0, 1) = 0; at(0, 2) = 0; at(0, 3) = 0; peak(0) = 0
            """);
    }

    private static void record() {
        Script.holds("25: as many as it has places: how many", """
            body(0, 1, 1, 1); element(25); target(0, 25, 0, 0, 7); target(0, 25, 0, 1, 8); sheet(0, 2, 0); record(0, 0, 0, 0) = 0
            sheet(0, 2, 1); record(0, 0, 0, 0) = 1; at(0, 0) = 7; sheet(0, 2, 64); record(0, 0, 0, 0) = 64; at(0, 0) = 7; at(0, 1) = 0; at(0, 2) = 8
            record(0, 0, 0, -63) = 64; at(0, 0) = 0; at(0, 2) = 0; at(0, 63) = 7; record(0, 0, 0, -61) = 64; at(0, 61) = 7; at(0, 63) = 8
            record(0, 0, 0, -64) = 64; at(0, 63) = 0; record(0, 0, 0, 2) = 64; at(0, 0) = 8; record(0, 0, 0, 3) = 64; at(0, 0) = 0
            """);
        Script.holds("25: of a LOST one come 0", """
            body(0, 1, 1, 1); element(25); target(0, 25, 0, 0, 7); sheet(0, 2, 1); record(0, 0, 0, 0) = 1; at(0, 0) = 7; lose(0, true)
            record(0, 0, 0, 0) = 1; at(0, 0) = 0
            """);
        Script.holds("25: PLACE: the SHEET, ahead of UNKNOWN", """
            element(25); record(-1, 0, 0, 0) = PLACE; record(6, 0, 0, 0) = PLACE; record(MIN, 0, 0, 0) = PLACE; record(MAX, 0, 0, 0) = PLACE
            record(6, 1, 0, 0) = PLACE; record(-1, 0, 1, 0) = PLACE; total(4) = 6; sheet(5, 0, 2); record(5, 0, 0, 0) = 2
            """);
        Script.holds("25: UNKNOWN, ahead of NULL", """
            record(0, 0, 0, 0) = UNKNOWN; sheet(0, 0, 1); record(0, 0, 0, 0) = UNKNOWN; element(25); record(0, 0, 0, 0) = 1
            record(0, 1, 0, 0) = UNKNOWN; record(0, 0, 1, 0) = UNKNOWN; record(0, -1, 0, 0) = UNKNOWN; record(0, 0, -1, 0) = UNKNOWN
            record(0, MIN, 0, 0) = UNKNOWN; record(0, 0, MAX, 0) = UNKNOWN; record(1, 1, 0, 0) = UNKNOWN; record(1, 0, 1, 0) = UNKNOWN
            7 x element(0); record(0, 7, 7, 0) = 1; record(0, 8, 7, 0) = UNKNOWN; record(0, 7, 8, 0) = UNKNOWN; total(4) = 0
            """);
        Script.holds("25: NULL", """
            element(25); record(0, 0, 0, 0) = NULL; record(5, 0, 0, 0) = NULL; total(4) = 2; sheet(0, 0, 1); tear(0); record(0, 0, 0, 0) = NULL; total(4) = 3
            """);
    }

    private static void recordTicks() {
        // Behind the greatest int no tick comes round to one where an echo is.
        Script.holds("25: from a tick on, beyond the greatest int, too", """
            body(0, 1, 1, 1); element(25); target(0, 25, 0, 0, 7); sheet(0, 2, 3); record(0, 0, 0, 0); at(0, 0) = 7
            record(0, 0, 0, MAX) = 3; at(0, 0) = 0; at(0, 1) = 0; at(0, 2) = 0; record(0, 0, 0, 2147483646) = 3; at(0, 2) = 0
            record(0, 0, 0, MIN) = 3; at(0, 0) = 0; at(0, 2) = 0; record(0, 0, 0, -2) = 3; at(0, 0) = 0; at(0, 2) = 7
            """);
    }

    private static void add() {
        Script.holds("26: shifted on by so many places (below 0: back), where there is one", COUNTED + """
            sheet(1, 1, 4); add(0, 1, 0) = 4; at(1, 0) = 1; at(1, 3) = 4; add(0, 1, 3) = 1; at(1, 3) = 5; at(1, 2) = 3; add(0, 1, 4) = 0
            add(0, 1, -3) = 1; at(1, 0) = 5; at(1, 1) = 2; add(0, 1, -4) = 0; add(0, 1, 1) = 3; at(1, 0) = 5; at(1, 1) = 3; at(1, 2) = 5; at(1, 3) = 8
            add(0, 1, -1) = 3; at(1, 0) = 7; at(1, 1) = 6; at(1, 2) = 9; at(1, 3) = 8
            """);
        Script.holds("26: shifted by the least and the greatest int", COUNTED + """
            sheet(1, 1, 4); add(0, 1, MAX) = 0; add(0, 1, MIN) = 0; add(0, 0, MAX) = 0; add(0, 0, MIN) = 0; add(0, 1, 2147483644) = 0
            peak(1) = 0; at(1, 0) = 0; at(0, 3) = 4; total(4) = 0
            """);
        Script.holds("26: of rows of unlike lengths", COUNTED + """
            sheet(1, 1, 2); add(0, 1, 0) = 2; at(1, 0) = 1; at(1, 1) = 2; add(0, 1, -2) = 2; at(1, 0) = 4; at(1, 1) = 6
            add(0, 1, 2) = 0; add(0, 1, -3) = 1; at(1, 0) = 8; add(1, 0, 2) = 2; at(0, 2) = 11; at(0, 3) = 10; at(0, 1) = 2; add(1, 0, 3) = 1; at(0, 3) = 18
            sheet(2, 1, 64); add(0, 2, 60) = 4; at(2, 63) = 18; add(0, 2, 61) = 3; add(0, 2, 63) = 1; add(0, 2, 64) = 0
            """);
        Script.holds("26: of a row of 0 numbers none", COUNTED + """
            sheet(1, 1, 0); add(0, 1, 0) = 0; add(1, 0, 0) = 0; add(1, 1, 0) = 0; at(0, 0) = 1; total(4) = 0
            """);
        Script.holds("26: as they were ahead", COUNTED + """
            add(0, 0, 1) = 3; at(0, 0) = 1; at(0, 1) = 3; at(0, 2) = 5; at(0, 3) = 7; add(0, 0, -1) = 3; at(0, 0) = 4; at(0, 1) = 8; at(0, 2) = 12; at(0, 3) = 7
            add(0, 0, 0) = 4; at(0, 0) = 8; at(0, 3) = 14
            """);
        Script.holds("26: LANES may be unlike", COUNTED + """
            sheet(1, 0, 4); sheet(2, 2, 4); add(0, 1, 0) = 4; add(0, 2, 0) = 4; add(1, 0, 0) = 4; at(0, 3) = 8; add(2, 1, 0) = 4; at(1, 3) = 8; total(4) = 0
            """);
    }

    private static void addFindings() {
        Script.holds("26: PLACE: from, to, ahead of NULL", """
            add(-1, 0, 0) = PLACE; add(6, 0, 0) = PLACE; add(0, -1, 0) = PLACE; add(0, 6, 0) = PLACE; add(MIN, MAX, 0) = PLACE; add(0, MIN, 0) = PLACE
            total(4) = 6; sheet(0, 0, 1); add(0, 6, 0) = PLACE; add(6, 0, 0) = PLACE; add(MAX, 0, MAX) = PLACE; total(4) = 9; at(0, 0) = 0
            """);
        Script.holds("26: NULL: from, to", """
            sheet(0, 0, 1); add(0, 5, 0) = NULL; add(5, 0, 0) = NULL; add(5, 5, 0) = NULL; add(4, 5, MAX) = NULL; add(0, 1, MIN) = NULL; total(4) = 5
            sheet(5, 0, 1); add(0, 5, 0) = 1; add(5, 0, 0) = 1; total(4) = 5
            """);
    }

    private static void copy() {
        Script.holds("27: n numbers of SHEET from, from place i on, come to SHEET to, from place j on: n", COUNTED + """
            sheet(1, 1, 3); copy(0, 1, 1, 0, 3) = 3; at(1, 0) = 2; at(1, 1) = 3; at(1, 2) = 4; copy(0, 0, 1, 2, 1) = 1; at(1, 2) = 1; at(1, 1) = 3
            copy(0, 3, 1, 0, 1) = 1; at(1, 0) = 4; copy(0, 0, 0, 0, 4) = 4; at(0, 0) = 1; at(0, 3) = 4
            sheet(2, 1, 64); sheet(3, 1, 64); copy(0, 0, 2, 60, 4) = 4; copy(2, 0, 3, 0, 64) = 64; at(3, 60) = 1; at(3, 63) = 4
            """);
        Script.holds("27: as they were ahead", COUNTED + """
            copy(0, 0, 0, 1, 3) = 3; at(0, 0) = 1; at(0, 1) = 1; at(0, 2) = 2; at(0, 3) = 3; copy(0, 1, 0, 0, 3) = 3
            at(0, 0) = 1; at(0, 1) = 2; at(0, 2) = 3; at(0, 3) = 3
            """);
        Script.holds("27: none of them, at every place and at the end", COUNTED + """
            sheet(1, 1, 0); copy(0, 0, 0, 0, 0) = 0; copy(0, 4, 0, 4, 0) = 0; copy(0, 4, 1, 0, 0) = 0; copy(1, 0, 0, 4, 0) = 0; copy(1, 0, 1, 0, 0) = 0
            total(4) = 0; at(0, 0) = 1; at(0, 3) = 4
            """);
    }

    private static void copyBeyond() {
        Script.holds("27: PLACE: beyond either (then none comes): of from", COUNTED + """
            sheet(1, 1, 9); copy(0, 0, 1, 0, 5) = PLACE; copy(0, 1, 1, 0, 4) = PLACE; copy(0, 3, 1, 0, 2) = PLACE; copy(0, 4, 1, 0, 1) = PLACE
            copy(0, 5, 1, 0, 0) = PLACE; copy(0, -1, 1, 0, 1) = PLACE; copy(0, -1, 1, 0, 0) = PLACE; copy(0, MIN, 1, 0, 1) = PLACE
            copy(0, MAX, 1, 0, 1) = PLACE; copy(0, MAX, 1, 0, 0) = PLACE; copy(0, 0, 1, 0, MAX) = PLACE; copy(0, MAX, 1, 0, MAX) = PLACE
            copy(0, MIN, 1, 0, MAX) = PLACE; total(4) = 13; peak(1) = 0; at(1, 0) = 0
            """);
        Script.holds("27: PLACE: beyond either (then none comes): of to", COUNTED + """
            sheet(1, 1, 3); copy(0, 0, 1, 0, 4) = PLACE; copy(0, 0, 1, 1, 3) = PLACE; copy(0, 0, 1, 3, 1) = PLACE; copy(0, 0, 1, 4, 0) = PLACE
            copy(0, 0, 1, -1, 1) = PLACE; copy(0, 0, 1, -1, 0) = PLACE; copy(0, 0, 1, MIN, 1) = PLACE; copy(0, 0, 1, MAX, 1) = PLACE
            copy(0, 0, 1, MAX, 0) = PLACE; copy(0, 0, 1, MIN, 0) = PLACE; total(4) = 10; at(1, 0) = 0; at(1, 1) = 0; at(1, 2) = 0
            copy(0, 0, 1, 0, 3) = 3; at(1, 0) = 1; at(1, 2) = 3
            """);
    }

    private static void copyOrder() {
        Script.holds("27: PLACE: from, to, ahead of NULL", """
            copy(-1, 0, 0, 0, 0) = PLACE; copy(6, 0, 0, 0, 0) = PLACE; copy(0, 0, -1, 0, 0) = PLACE; copy(0, 0, 6, 0, 0) = PLACE
            copy(MIN, 0, MAX, 0, -1) = PLACE; copy(0, 0, MIN, 0, -1) = PLACE; total(4) = 6; sheet(0, 0, 1); copy(0, 0, 6, 0, -1) = PLACE
            copy(6, 0, 0, 0, 9) = PLACE; total(4) = 8
            """);
        Script.holds("27: NULL, ahead of SIZE and of PLACE", """
            sheet(0, 0, 1); copy(0, 0, 5, 0, 1) = NULL; copy(5, 0, 0, 0, 1) = NULL; copy(5, 0, 5, 0, 0) = NULL; copy(0, 0, 5, 0, -1) = NULL
            copy(5, 0, 0, 0, -1) = NULL; copy(0, 9, 5, 9, 9) = NULL; total(4) = 6
            """);
        Script.holds("27: CAST: LANES are unlike, ahead of SIZE and of PLACE", """
            sheet(0, 0, 1); sheet(1, 1, 1); sheet(2, 2, 1); copy(0, 0, 1, 0, 1) = CAST; copy(1, 0, 0, 0, 1) = CAST; copy(0, 0, 2, 0, 1) = CAST
            copy(2, 0, 1, 0, 0) = CAST; copy(0, 0, 1, 0, -1) = CAST; copy(1, 9, 2, 9, 9) = CAST; copy(2, -1, 0, -1, MIN) = CAST; total(4) = 7
            sheet(1, 0, 1); copy(0, 0, 1, 0, 1) = 1
            """);
        Script.holds("27: SIZE: n, ahead of PLACE", """
            sheet(0, 0, 1); copy(0, 0, 0, 0, 0) = 0; copy(0, 0, 0, 0, -1) = SIZE; copy(0, 0, 0, 0, MIN) = SIZE; copy(0, 9, 0, 0, -1) = SIZE
            copy(0, 0, 0, -1, -1) = SIZE; copy(0, MAX, 0, MIN, MIN) = SIZE; total(4) = 5
            """);
    }

    private static void at() {
        Script.holds("28: Place i of a SHEET", COUNTED + """
            at(0, 0) = 1; at(0, 3) = 4; total(4) = 0
            """);
        Script.holds("28: PLACE: the SHEET, ahead of NULL", """
            at(-1, 0) = PLACE; at(6, 0) = PLACE; at(MIN, 0) = PLACE; at(MAX, 0) = PLACE; at(6, -1) = PLACE; total(4) = 5
            """);
        Script.holds("28: NULL, ahead of PLACE: i", """
            at(0, 0) = NULL; at(5, 0) = NULL; at(0, -1) = NULL; at(0, 64) = NULL; at(5, MAX) = NULL; total(4) = 5
            """);
        Script.holds("28: PLACE: i", COUNTED + """
            at(0, -1) = PLACE; at(0, 4) = PLACE; at(0, MIN) = PLACE; at(0, MAX) = PLACE; total(4) = 4; sheet(5, 0, 0); at(5, 0) = PLACE; at(5, -1) = PLACE
            sheet(5, 0, 64); at(5, 63) = 0; at(5, 64) = PLACE; total(4) = 7
            """);
    }

    private static void peak() {
        Script.holds("29: The place of the number farthest from 0", COUNTED + """
            peak(0) = 3; copy(0, 3, 0, 0, 1); peak(0) = 0; target(0, 25, 0, 1, -5); sheet(1, 1, 1); record(1, 0, 0, 2); copy(1, 0, 0, 2, 1); at(0, 2) = -5
            peak(0) = 2; sheet(2, 1, 64); copy(0, 2, 2, 63, 1); peak(2) = 63
            """);
        Script.holds("29: the first of like ones", COUNTED + """
            copy(0, 3, 0, 1, 1); peak(0) = 1; copy(0, 3, 0, 0, 1); peak(0) = 0; target(0, 25, 0, 1, -4); sheet(1, 1, 1); record(1, 0, 0, 2)
            copy(1, 0, 0, 2, 1); peak(0) = 0; copy(1, 0, 0, 0, 1); at(0, 0) = -4; at(0, 1) = 4; peak(0) = 0; sheet(0, 1, 64); peak(0) = 0
            """);
        Script.holds("29: the least int is farther from 0 than the greatest", """
            body(0, 10, 1, 1); element(25); target(0, 25, 0, 1, 1); target(0, 25, 0, 2, -1); sheet(0, 2, 4); record(0, 0, 0, 1)
            peak(0) = 1; 31 x add(0, 0, 0); at(0, 1) = MAX; at(0, 3) = MIN; peak(0) = 3; sheet(1, 2, 2); copy(0, 3, 1, 0, 1); peak(1) = 0
            copy(0, 1, 1, 1, 1); peak(1) = 0; copy(1, 0, 1, 1, 1); peak(1) = 0
            """);
        Script.holds("29: NONE: it has none", """
            sheet(0, 0, 0); peak(0) = NONE; sheet(5, 2, 0); peak(5) = NONE; sheet(5, 2, 1); peak(5) = 0; total(4) = 0
            """);
        Script.holds("29: PLACE; NULL", """
            peak(-1) = PLACE; peak(6) = PLACE; peak(MIN) = PLACE; peak(MAX) = PLACE; total(4) = 4; peak(0) = NULL; peak(5) = NULL; total(4) = 6
            sheet(0, 0, 0); tear(0); peak(0) = NULL; total(4) = 7
            """);
    }

    private static void total() {
        Script.holds("30: each of them, of none", """
            total(0) = 0; total(1) = 0; total(2) = 0; total(3) = 0; total(4) = 0; total(5) = 0; total(6) = 30; total(7) = 0
            """);
        Script.holds("30: each of them, of as many as can be", """
            8 x element(0); 8 x target(2, 0, 0, 0, 1); 6 x tell(0, 0, 0); sheet(0, 0, 0); sheet(1, 0, 0); sheet(2, 1, 0); sheet(3, 1, 0); sheet(4, 2, 0)
            sheet(5, 2, 64); body(20, 30, 8, 8); focus(0, 20); tear(6); total(0) = 8; total(1) = 8; total(2) = 8; total(3) = 6; total(4) = 1; total(5) = 6
            total(6) = 50; total(7) = 1
            """);
        Script.holds("30: BAD", """
            total(0) = 0; total(-1) = BAD; total(7) = 0; total(8) = BAD; total(MIN) = BAD; total(MAX) = BAD; total(4) = 0
            """);
    }
}

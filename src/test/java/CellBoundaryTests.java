/** Section 3 of the document: cells, what an act tells, what is refused, what throws. */
final class CellBoundaryTests {
    /** Calls on the object of refusing(), each REFUSED. */
    private static final String[] REFUSED = {
        "put(0, false, 0, -1)", "put(0, true, 0, -512)", "put(7, false, 31, 1)", "put(7, true, 31, 511)",
        "putDigits(0, 0x3ff00000, 512)", "putDigits(0, 0x7ff00000, 0)", "putDigits(7, -1, -1)",
        "putParts(0, false, 1023, 0, 512)", "putParts(7, true, 3, 0, 0)",
        "take(0, 0)", "take(0, 7)",
        "up(0, 0)", "up(0, 7)", "down(1, 0)",
        "steps(0, 1, 0)", "steps(0, 1023, 7)", "steps(1, -1, 0)", "steps(2, 1, 0)", "steps(3, -1, 7)",
        "towards(0, 2, 0)", "towards(2, 0, 7)", "towards(2, 2, 7)",
        "shift(2, 0, 0)", "shift(0, 1, 0)", "shift(1, 127, 7)",
        "gap(0, true, 0)", "gap(1, false, 7)",
        "sum(4, 2, false, 0)", "sum(2, 4, true, 0)", "sum(0, 4, false, 7)", "sum(4, 0, true, 7)",
        "error(4, 2, false, 0)", "error(2, 4, true, 0)", "error(0, 4, false, 7)", "error(4, 0, true, 7)",
        "middle(0, 2, 0)", "middle(2, 0, 7)", "middle(2, 3, 7)",
        "least(6, 0, 0)", "least(3, 0, 7)", "least(3, 1, 7)",
        "readDecimal(false, 0, 0)", "readDecimal(true, 1, 7)",
        "exact(4, 2, false)", "exact(0, 4, true)", "holds(2, 4, true)", "holds(4, 0, false)",
        "walk(0, 1)", "walk(4, 2)",
    };
    /** Calls that throw for their cells, whatever else is wrong in them. */
    private static final String[] NO_CELL = {
        "put(8, false, 0, 0)", "put(-1, false, 32, 512)", "put(8, true, 0, -1)",
        "putDigits(-1, 0, 0)", "putDigits(8, -1, -1)",
        "putParts(8, false, 0, 0, 0)", "putParts(-1, false, -1, -1, 0)", "putParts(8, true, 3, 0, 0)",
        "copy(8, 0)", "copy(0, 8)", "copy(-1, -1)", "swap(8, 0)", "swap(0, -1)", "minus(8)", "minus(-1)",
        "take(8, 0)", "take(0, 8)", "take(0, -1)",
        "keep(8, 0)", "keep(0, 8)", "up(-1, 0)", "up(0, 8)", "down(8, 0)", "down(1, -1)",
        "steps(8, 0, 0)", "steps(0, 0, 8)", "steps(0, 1024, 8)", "steps(-1, -1024, 0)", "steps(0, 1, -1)",
        "towards(8, 0, 0)", "towards(0, 8, 0)", "towards(0, 0, 8)", "towards(0, 2, -1)",
        "shift(8, 0, 0)", "shift(0, 0, 8)", "shift(0, 128, 8)", "shift(-1, -129, 0)", "shift(2, 0, 8)",
        "unit(8, 0)", "unit(0, 8)", "unitByPower(-1, 0)", "unitByPower(0, -1)",
        "gap(8, true, 0)", "gap(0, true, 8)",
        "sum(8, 0, false, 0)", "sum(0, 8, true, 0)", "sum(0, 0, false, 8)", "sum(4, 2, false, -1)",
        "error(8, 0, false, 0)", "error(0, 8, true, 0)", "error(0, 0, false, 8)", "error(4, 2, false, -1)",
        "middle(8, 0, 0)", "middle(0, -1, 0)", "middle(0, 0, 8)", "middle(2, 3, -1)",
        "least(0, 8, 0)", "least(0, 0, 8)", "least(7, 0, 8)", "least(-1, -1, 0)", "least(6, 0, 8)",
        "readBinary(false, 8, 0)", "readBinary(true, 0, 8)",
        "readDecimal(true, 8, 0)", "readDecimal(true, 1, 8)", "readDecimal(false, 0, -1)",
        "power(8)", "power(-1)", "powerByUnit(8)", "isEdge(8)", "isUnitStep(-1)", "isNear(8)",
        "isWithin(8, 0)", "isWithin(0, 8)", "exact(8, 0, false)", "exact(4, -1, true)",
        "holds(-1, 2, false)", "holds(0, 8, true)", "walk(8, 0)", "walk(0, -1)",
        "window(false, 8)", "window(true, 8)", "offset(false, -1)", "offset(true, 8)",
        "upper(false, 8)", "upper(true, -1)", "lower(false, 8)", "lower(true, 8)",
        "parts(false, 8)", "parts(true, -1)", "place(false, 8)", "place(true, 8)",
        "between(false, 8, false, 0)", "between(true, 0, true, 8)", "between(true, 8, false, 0)",
        "binary(false, 8)", "binary(true, 8)", "decimal(false, -1)", "decimal(true, 8)",
        "decimals(false, 8)", "decimals(true, 8)",
        "isSame(false, 8, false, 0)", "isSame(true, 0, true, 8)",
        "order(false, 8, false, 0)", "order(true, 0, true, -1)",
    };
    /** Calls with cells that there are, which throw; some of them would be REFUSED otherwise. */
    private static final String[] NO_ARGUMENT = {
        "put(0, false, 32, 0)", "put(0, false, -1, 0)", "put(0, false, 0, 512)", "put(7, false, 31, -513)",
        "put(0, false, 31, 512)", "put(0, true, 0, -513)", "put(0, true, 32, 512)",
        "putParts(0, false, 2047, 0, 0)", "putParts(0, false, -1, 0, 0)", "putParts(7, true, 3, 1048576, 0)",
        "putParts(0, false, 0, -1, 0)", "putParts(0, false, 2047, 1048576, 0)",
        "steps(0, 1024, 0)", "steps(1, -1024, 7)", "steps(3, 2147483647, 0)", "steps(3, -2147483648, 0)",
        "shift(0, 128, 0)", "shift(0, -129, 7)", "shift(2, 128, 0)", "shift(2, 2147483647, 0)",
        "least(7, 0, 0)", "least(-1, 0, 7)", "least(-2147483648, 1, 0)",
        "house(4)", "house(-1)", "house(2147483647)", "house(-2147483648)",
    };

    private CellBoundaryTests() {
    }

    static void run() {
        testCells();
        testWays();
        testActs();
        Check.test("section 3: what is REFUSED tells -9 and changes nothing, but is counted", () -> {
            for (String call : REFUSED) {
                testRefused(call);
            }
        });
        Check.test("section 3: a method that throws an exception changes nothing", () -> {
            for (String call : NO_CELL) {
                testThrows(call, Check.INDEX);
            }
            for (String call : NO_ARGUMENT) {
                testThrows(call, Check.ARGUMENT);
            }
        });
        Run.test("section 3: if several exceptions apply, the one that is named first is thrown", """
                put(8, false, 32, 0) = throws.IndexOutOfBoundsException
                put(-1, false, 0, 512) = throws.IndexOutOfBoundsException
                putParts(8, false, 2047, 0, 0) = throws.IndexOutOfBoundsException
                putParts(-1, false, 0, -1, 0) = throws.IndexOutOfBoundsException
                steps(8, 1024, 0) = throws.IndexOutOfBoundsException
                steps(0, -1024, 8) = throws.IndexOutOfBoundsException
                shift(-1, 128, 0) = throws.IndexOutOfBoundsException
                shift(0, -129, -1) = throws.IndexOutOfBoundsException
                least(7, 8, 0) = throws.IndexOutOfBoundsException
                least(-1, 0, 8) = throws.IndexOutOfBoundsException
                """);
        testAheadOfRefused();
    }

    // ---- cells

    private static void testCells() {
        Run.test("section 3: at first all cells have the ZERO with SIGN 0", """
                parts(false, 0) = 0 0 0
                parts(false, 7) = 0 0 0
                parts(true, 0) = 0 0 0
                parts(true, 7) = 0 0 0
                copy(0, 7) = 0
                keep(7, 0) = 0
                take(7, 0) = 0
                """);
        Check.test("section 3: there are eight ARGUMENT and eight ANSWER cells, 0 to 7, each its own", () -> {
            Run run = new Run();
            for (int cell = 0; cell < 8; cell++) {
                run.due("put(" + cell + ", false, 22, " + (cell + 1) + ")", "1");
                run.due("up(" + cell + ", " + (7 - cell) + ")", "1");
            }
            for (int cell = 0; cell < 8; cell++) {
                run.due("offset(false, " + cell + ")", "" + (cell + 1));
                run.due("offset(true, " + cell + ")", "" + (9 - cell));
            }
            for (int cell : new int[] {-1, 8, Integer.MAX_VALUE, Integer.MIN_VALUE}) {
                run.due("offset(false, " + cell + ")", Check.INDEX);
                run.due("offset(true, " + cell + ")", Check.INDEX);
            }
        });
    }

    private static void testWays() {
        Run.test("section 3: a NUMBER comes from the one cell to the other, no other cell changes", """
                put(1, false, 21, 1) = 1
                put(6, true, 12, 0) = 1
                keep(1, 6) = 1
                parts(true, 6) = 0 1026 1125899906842625
                up(1, 5) = 1
                parts(true, 5) = 0 1026 1125899906842626
                down(1, 4) = 1
                parts(true, 4) = 0 1026 1125899906842624
                steps(1, 2, 3) = 1
                parts(true, 3) = 0 1026 1125899906842627
                shift(1, 1, 2) = 1
                parts(true, 2) = 0 1027 1125899906842625
                unit(1, 0) = 1
                parts(true, 0) = 0 974 0
                unitByPower(1, 7) = 1
                parts(true, 7) = 0 974 0
                parts(true, 1) = 0 0 0
                gap(1, true, 6) = 1
                parts(true, 6) = 0 974 0
                readBinary(false, 1, 5) = 1
                parts(true, 5) = 0 1026 1125899906842625
                readDecimal(true, 5, 4) = 1
                parts(true, 4) = 0 1026 1125899906842625
                least(4, 1, 3) = 64
                parts(true, 3) = 0 1025 1125899906842625
                parts(true, 1) = 0 0 0
                copy(1, 2) = 1
                parts(false, 2) = 0 1026 1125899906842625
                take(5, 3) = 1
                parts(false, 3) = 0 1026 1125899906842625
                take(0, 4) = -9
                parts(false, 1) = 0 1026 1125899906842625
                parts(false, 6) = 1 1019 2702159776422298
                parts(false, 5) = 0 0 0
                """);
        Run.test("section 3: a NUMBER comes of the first and the other one to a third cell", """
                put(1, false, 21, 1) = 1
                put(6, true, 16, 0) = 1
                sum(1, 6, false, 3) = 1
                parts(true, 3) = 0 1026 562949953421313
                sum(6, 1, true, 4) = 1
                parts(true, 4) = 1 1026 1688849860263937
                sum(1, 6, true, 4) = 1
                parts(true, 4) = 0 1026 1688849860263937
                error(1, 6, false, 5) = 0
                towards(1, 6, 2) = 1
                parts(true, 2) = 0 1026 1125899906842624
                towards(6, 1, 2) = 1
                parts(true, 2) = 1 1022 4503599627370495
                middle(6, 1, 0) = 1
                place(true, 0) = 7318349394477056
                parts(true, 1) = 0 0 0
                parts(true, 6) = 0 0 0
                parts(false, 3) = 0 0 0
                house(1) = 7
                """);
    }

    private static void testActs() {
        Run.test("section 3: an ACT on ARGUMENTS tells 1 if one that is not the SAME was there, else 0", """
                put(0, true, 0, 0) = 1                         // the other ZERO
                put(0, true, 0, 0) = 0
                putDigits(0, 0, 0) = 1
                putDigits(0, 0, 0) = 0
                putParts(0, true, 0, 0, 0) = 1
                putParts(0, true, 0, 0, 0) = 0
                copy(0, 1) = 1
                copy(0, 1) = 0
                take(0, 1) = 1
                take(0, 1) = 0
                house(0) = 10
                """);
        Run.test("section 3: an ACT on ANSWERS tells 1 if one that is not the SAME was there, else 0", """
                put(0, true, 0, 1) = 1
                up(0, 0) = 1                                   // the other ZERO
                up(0, 0) = 0
                steps(0, 1, 1) = 1
                steps(0, 1, 1) = 0
                put(1, true, 0, 0) = 1
                keep(1, 2) = 1
                keep(1, 2) = 0
                towards(0, 2, 3) = 1
                towards(0, 2, 3) = 0
                shift(0, -1, 4) = 1
                shift(0, -1, 4) = 0
                sum(1, 1, false, 5) = 1
                sum(1, 1, false, 5) = 0
                readBinary(false, 1, 6) = 1
                readBinary(false, 1, 6) = 0
                readDecimal(true, 6, 7) = 1
                readDecimal(true, 6, 7) = 0
                put(2, false, 0, 1) = 1
                down(2, 0) = 1                                 // back to the ZERO with SIGN 0
                down(2, 0) = 0
                error(1, 1, false, 1) = 1
                error(1, 1, false, 1) = 0
                middle(0, 2, 2) = 1
                middle(0, 2, 2) = 0
                least(0, 1, 3) = 63                            // this one tells its trials
                parts(true, 3) = 0 0 0
                unit(0, 4) = 1
                unit(0, 4) = 0
                unitByPower(0, 5) = 1
                unitByPower(0, 5) = 0
                gap(0, true, 6) = 1
                gap(0, true, 6) = 0
                house(1) = 29
                """);
    }

    // ---- what is refused, and what throws

    /** Cells with TOP, -TOP, both ends of a WINDOW and 1; an answer out of the SET and one without DECIMAL. */
    private static Run refusing() {
        Run run = new Run();
        run.due("""
                put(2, false, 17, 511) = 1
                up(2, 0) = 1
                put(0, false, 31, 0) = 1
                put(1, true, 31, 0) = 1
                put(3, false, 17, -512) = 1
                put(4, true, 16, 1) = 1
                keep(1, 1) = 1
                put(5, false, 0, 0) = 0
                house(2) = 0
                """);
        return run;
    }

    private static void testRefused(String call) {
        Run run = refusing();
        String before = cellsOf(run);
        run.due(call, "-9");
        Check.due("the cells after " + call, before, () -> cellsOf(run));
        run.due("house(0)", "6");
        run.due("house(1)", "2");
        run.due("house(2)", "1");
        run.due("house(3)", "0");
        run.due(call, "-9");
        run.due("house(2)", "2");
    }

    private static String cellsOf(Run run) {
        String state = run.state();
        return state.substring(0, state.lastIndexOf(','));
    }

    private static void testThrows(String call, String due) {
        Run run = refusing();
        run.due("put(6, false, 31, 1)", "-9");
        run.due("knock()", "1");
        String before = run.state();
        run.due(call, due);
        Check.due("all after " + call, before, () -> run.state());
    }

    private static void testAheadOfRefused() {
        Check.test("section 3: exceptions go ahead of REFUSED", () -> {
            Run run = refusing();
            run.due("""
                    put(0, false, 31, 1) = -9
                    put(8, false, 31, 1) = throws.IndexOutOfBoundsException
                    put(0, false, 31, 512) = throws.IllegalArgumentException
                    putDigits(0, -1, -1) = -9
                    putDigits(8, -1, -1) = throws.IndexOutOfBoundsException
                    putParts(0, false, 4, 0, 0) = -9
                    putParts(0, false, 4, 1048576, 0) = throws.IllegalArgumentException
                    take(0, 0) = -9
                    take(0, 8) = throws.IndexOutOfBoundsException
                    up(0, 0) = -9
                    up(0, 8) = throws.IndexOutOfBoundsException
                    down(1, 0) = -9
                    down(1, 8) = throws.IndexOutOfBoundsException
                    steps(0, 1023, 0) = -9
                    steps(0, 1024, 0) = throws.IllegalArgumentException
                    steps(0, 1023, 8) = throws.IndexOutOfBoundsException
                    towards(2, 0, 0) = -9
                    towards(2, 0, 8) = throws.IndexOutOfBoundsException
                    towards(2, 8, 0) = throws.IndexOutOfBoundsException
                    shift(0, 127, 0) = -9
                    shift(0, 128, 0) = throws.IllegalArgumentException
                    shift(2, -128, 0) = -9
                    shift(2, -129, 0) = throws.IllegalArgumentException
                    shift(2, 0, 8) = throws.IndexOutOfBoundsException
                    gap(0, true, 0) = -9
                    gap(0, true, 8) = throws.IndexOutOfBoundsException
                    sum(0, 0, false, 0) = -9
                    sum(0, 8, false, 0) = throws.IndexOutOfBoundsException
                    sum(0, 0, false, 8) = throws.IndexOutOfBoundsException
                    error(0, 0, false, 0) = -9
                    error(0, 8, false, 0) = throws.IndexOutOfBoundsException
                    error(0, 0, false, 8) = throws.IndexOutOfBoundsException
                    middle(2, 2, 0) = -9
                    middle(2, 8, 0) = throws.IndexOutOfBoundsException
                    middle(2, 2, 8) = throws.IndexOutOfBoundsException
                    least(6, 0, 0) = -9
                    least(6, 0, 8) = throws.IndexOutOfBoundsException
                    least(7, 0, 0) = throws.IllegalArgumentException
                    readDecimal(false, 0, 0) = -9
                    readDecimal(false, 0, 8) = throws.IndexOutOfBoundsException
                    exact(0, 0, false) = -9
                    exact(0, 8, false) = throws.IndexOutOfBoundsException
                    holds(0, 0, false) = -9
                    holds(0, 8, false) = throws.IndexOutOfBoundsException
                    walk(0, 1) = -9
                    walk(0, 8) = throws.IndexOutOfBoundsException
                    """);
        });
    }
}

/** Promises 1 to 8: what comes to ARGUMENT cells, and what is refused there. */
final class ArgumentBoundaryTests {
    private ArgumentBoundaryTests() {
    }

    static void run() {
        testNew();
        testPut();
        testPutDigits();
        testPutParts();
        testCopyAndSwap();
        testMinusAndTake();
    }

    private static void testNew() {
        Check.test("promise 1: a new object has ZEROS with SIGN 0 in all cells, and nothing is counted", () -> {
            Run run = new Run();
            for (int cell = 0; cell < 8; cell++) {
                run.due("upper(false, " + cell + ")", "0");
                run.due("lower(false, " + cell + ")", "0");
                run.due("upper(true, " + cell + ")", "0");
                run.due("lower(true, " + cell + ")", "0");
            }
            run.due("""
                    house(0) = 0
                    house(1) = 0
                    house(2) = 0
                    house(3) = 0
                    isSound() = true
                    """);
        });
        Check.test("promise 1: a new object has nothing of another one", () -> {
            Run other = new Run();
            other.due("put(0, true, 31, 0)", "1");
            other.due("keep(0, 0)", "1");
            other.due("up(0, 1)", "1");
            other.due("knock()", "1");
            Run run = new Run();
            run.due("""
                    parts(false, 0) = 0 0 0
                    parts(true, 0) = 0 0 0
                    house(0) = 0
                    house(1) = 0
                    knock() = 1
                    """);
            other.due("parts(false, 0)", "1 2046 4503599627370495");
        });
    }

    private static void testPut() {
        Run.test("promise 2: put is REFUSED if there is none, below POINT 0", """
                put(0, false, 0, 1) = 1
                put(0, false, 0, 0) = 1
                put(0, false, 0, -1) = -9
                put(0, true, 0, -1) = -9                       // not the one with PLACE -1 or 1
                put(0, true, 0, -512) = -9
                parts(false, 0) = 0 0 0
                house(0) = 2
                house(2) = 3
                """);
        Run.test("promise 2: put is REFUSED if there is none, above TOP", """
                put(0, false, 31, -1) = 1
                put(0, false, 31, 0) = 1
                put(0, false, 31, 1) = -9
                put(0, true, 31, 1) = -9
                put(0, false, 31, 511) = -9
                parts(false, 0) = 0 2046 4503599627370495
                house(0) = 2
                house(2) = 3
                """);
        Run.test("promise 2: put has SIGN 1 if isBelow, also of a ZERO", """
                put(0, true, 0, 0) = 1
                parts(false, 0) = 1 0 0
                put(0, false, 0, 0) = 1
                parts(false, 0) = 0 0 0
                put(0, true, 31, 0) = 1
                parts(false, 0) = 1 2046 4503599627370495
                put(0, false, 31, 0) = 1
                parts(false, 0) = 0 2046 4503599627370495
                """);
        Run.test("promise 2: put with the first and the last KNOT and OFFSET", """
                put(7, false, 0, 511) = 1
                parts(false, 7) = 0 0 511
                put(7, false, 31, -512) = 1
                parts(false, 7) = 0 2046 4503599627369983
                put(7, false, 16, -512) = 1
                parts(false, 7) = 0 1022 4503599627369984
                put(7, false, 16, 511) = 1
                parts(false, 7) = 0 1023 511
                put(7, false, 16, 511) = 0
                """);
    }

    private static void testPutDigits() {
        Run.test("promise 3: putDigits is REFUSED if that is none of the SET", """
                putDigits(0, 0x3ff00000, 511) = 1
                putDigits(0, 0x3ff00000, 512) = -9
                putDigits(0, 0x3fefffff, 0xfffffdff) = -9
                putDigits(0, 0x3fefffff, 0xfffffe00) = 1
                putDigits(0, 0x40140000, 0) = -9               // 5
                putDigits(0, 0, 512) = -9
                putDigits(0, 0, -1) = -9
                parts(false, 0) = 0 1022 4503599627369984
                house(0) = 2
                house(2) = 5
                """);
        Run.test("promise 3: putDigits is REFUSED if that is no NUMBER at all", """
                putDigits(0, 0x7fefffff, 0xffffffff) = 1       // TOP
                putDigits(0, 0x7ff00000, 0) = -9
                putDigits(0, 0x7ff00000, 511) = -9
                putDigits(0, 0x7fffffff, 0xffffffff) = -9
                putDigits(0, 0xffefffff, 0xffffffff) = 1       // -TOP
                putDigits(0, 0xfff00000, 0) = -9
                putDigits(0, 0xffffffff, 0xffffffff) = -9
                parts(false, 0) = 1 2046 4503599627370495
                """);
        Run.test("promise 3: putDigits of both ZEROS", """
                putDigits(0, 0, 0) = 0
                putDigits(0, 0x80000000, 0) = 1
                parts(false, 0) = 1 0 0
                putDigits(0, 0x80000000, 0) = 0
                putDigits(0, 0, 0) = 1
                parts(false, 0) = 0 0 0
                """);
    }

    private static void testPutParts() {
        Run.test("promise 4: putParts with the first and the last EXPONENT and FRACTION", """
                putParts(0, false, 0, 0, 0) = 0
                putParts(0, true, 0, 0, 0) = 1
                parts(false, 0) = 1 0 0
                putParts(0, false, 2046, 1048575, -1) = 1
                parts(false, 0) = 0 2046 4503599627370495
                putParts(0, true, 2046, 1048575, -1) = 1
                parts(false, 0) = 1 2046 4503599627370495
                putParts(0, true, 2046, 1048575, -1) = 0
                """);
        Run.test("promise 4: putParts takes the low digits of FRACTION as an int, also below 0", """
                putParts(0, false, 1019, 0x99999, 0x9999999a) = 1
                parts(false, 0) = 0 1019 2702159776422298
                putParts(0, false, 1022, 1048575, -1) = 1
                parts(false, 0) = 0 1022 4503599627370495
                putParts(0, false, 1022, 1048575, -512) = 1
                parts(false, 0) = 0 1022 4503599627369984
                putParts(0, false, 1023, 0, -512) = -9         // these are digits, not an OFFSET
                putParts(0, false, 1023, 0, 511) = 1
                parts(false, 0) = 0 1023 511
                """);
        Run.test("promise 4: putParts is REFUSED if that is none of the SET", """
                putParts(0, false, 1023, 0, 511) = 1
                putParts(0, false, 1023, 0, 512) = -9
                putParts(0, false, 1022, 1048575, -513) = -9
                putParts(0, false, 0, 0, 512) = -9
                putParts(0, true, 2046, 1048575, -514) = -9
                putParts(0, true, 2046, 1048575, -513) = 1
                putParts(0, false, 2046, 1048574, -1) = -9
                parts(false, 0) = 1 2046 4503599627369983
                house(0) = 2
                house(2) = 5
                """);
    }

    private static void testCopyAndSwap() {
        Run.test("promise 5: copy of a cell into itself, and of the other ZERO", """
                put(0, true, 0, 0) = 1
                copy(0, 0) = 0
                parts(false, 0) = 1 0 0
                copy(0, 7) = 1
                copy(0, 7) = 0
                parts(false, 7) = 1 0 0
                copy(1, 0) = 1
                parts(false, 0) = 0 0 0
                house(0) = 5
                """);
        Run.test("promise 6: swap tells 0 if these are the SAME, also of one cell with itself", """
                swap(0, 7) = 0
                swap(0, 0) = 0
                put(0, true, 0, 0) = 1
                swap(0, 0) = 0
                parts(false, 0) = 1 0 0
                put(7, true, 0, 0) = 1
                swap(7, 0) = 0
                house(0) = 6
                """);
        Run.test("promise 6: swap tells 1 if these are not the SAME, also of the two ZEROS", """
                put(0, true, 0, 0) = 1
                swap(0, 7) = 1
                parts(false, 0) = 0 0 0
                parts(false, 7) = 1 0 0
                swap(0, 7) = 1
                parts(false, 0) = 1 0 0
                parts(false, 7) = 0 0 0
                put(7, false, 31, 0) = 1
                swap(7, 0) = 1
                parts(false, 7) = 1 0 0
                parts(false, 0) = 0 2046 4503599627370495
                house(0) = 5
                """);
    }

    private static void testMinusAndTake() {
        Run.test("promise 7: minus tells the SIGN that is there then, also of a ZERO", """
                minus(0) = 1
                parts(false, 0) = 1 0 0
                minus(0) = 0
                parts(false, 0) = 0 0 0
                put(0, true, 31, 0) = 1
                minus(0) = 0
                parts(false, 0) = 0 2046 4503599627370495
                minus(0) = 1
                parts(false, 0) = 1 2046 4503599627370495
                house(0) = 5
                """);
        Run.test("promise 8: take is REFUSED if the ANSWER is none of the SET", """
                put(0, false, 16, 510) = 1
                up(0, 0) = 1
                take(0, 1) = 1                                 // OFFSET 511
                take(0, 1) = 0
                put(0, false, 16, 511) = 1
                up(0, 0) = 1
                take(0, 1) = -9                                // one more
                put(0, true, 16, -512) = 1
                up(0, 0) = 1
                take(0, 1) = -9                                // one less than the first
                parts(false, 1) = 0 1023 511
                house(0) = 5
                house(2) = 2
                """);
        Run.test("promise 8: take of a ZERO brings its SIGN", """
                put(0, true, 0, 1) = 1
                up(0, 0) = 1
                take(0, 7) = 1
                parts(false, 7) = 1 0 0
                take(1, 7) = 1
                parts(false, 7) = 0 0 0
                take(1, 7) = 0
                """);
    }
}

/** Promises 24 to 44: what is asked of arguments, and of both. */
final class QuestionBoundaryTests {
    private QuestionBoundaryTests() {
    }

    static void run() {
        testPowers();
        testEdges();
        testNearAndWithin();
        testExactAndHolds();
        testWalk();
        testWindow();
        testDigits();
        testBetween();
        testTexts();
        testOrder();
    }

    private static void testPowers() {
        Run.test("promise 24: power of EXPONENT 0 is -1023, of 1 -1022, of 2046 1023", """
                power(0) = -1023
                minus(0) = 1
                power(0) = -1023
                put(0, true, 2, -1) = 1
                power(0) = -1023
                put(0, true, 2, 0) = 1
                power(0) = -1022
                put(0, true, 31, 0) = 1
                power(0) = 1023
                """);
        Run.test("promise 25: powerByUnit is the POWER, but at least -1022", """
                powerByUnit(0) = -1022
                minus(0) = 1
                powerByUnit(0) = -1022
                put(0, true, 2, -1) = 1
                powerByUnit(0) = -1022
                put(0, true, 2, 0) = 1
                powerByUnit(0) = -1022
                put(0, true, 3, 0) = 1
                powerByUnit(0) = -1021
                put(0, true, 5, 0) = 1
                powerByUnit(0) = -970
                put(0, true, 31, 0) = 1
                powerByUnit(0) = 1023
                """);
    }

    private static void testEdges() {
        Run.test("promise 26: isEdge at a power of two alone, with either SIGN", """
                put(0, false, 16, 0) = 1
                isEdge(0) = true
                minus(0) = 1
                isEdge(0) = true
                put(0, false, 16, 1) = 1
                isEdge(0) = false
                put(0, true, 16, -1) = 1
                isEdge(0) = false
                put(0, false, 29, 0) = 1
                isEdge(0) = true
                put(0, true, 30, 0) = 1
                isEdge(0) = true
                put(0, false, 31, 0) = 1
                isEdge(0) = false
                """);
        Run.test("promise 26: isEdge not at the least powers of two, up to EXPONENT 1, nor at the ZEROS", """
                isEdge(0) = false
                minus(0) = 1
                isEdge(0) = false
                put(0, false, 0, 1) = 1
                isEdge(0) = false
                put(0, false, 0, 512) = throws.IllegalArgumentException
                put(0, false, 0, 256) = 1
                isEdge(0) = false
                put(0, false, 1, 0) = 1
                isEdge(0) = false
                put(0, true, 2, 0) = 1
                isEdge(0) = false
                put(0, true, 3, 0) = 1
                isEdge(0) = true
                """);
        Run.test("promise 27: isUnitStep always, also without UP, where ROUNDED there is NONE", """
                isUnitStep(0) = true
                minus(0) = 1
                isUnitStep(0) = true
                put(0, true, 2, -1) = 1
                isUnitStep(0) = true
                put(0, false, 18, -1) = 1
                isUnitStep(0) = true
                put(0, false, 31, -1) = 1
                isUnitStep(0) = true
                put(0, false, 31, 0) = 1
                isUnitStep(0) = true
                put(0, true, 31, 0) = 1
                isUnitStep(0) = true
                put(0, true, 12, 511) = 1
                isUnitStep(0) = true
                """);
    }

    private static void testNearAndWithin() {
        Run.test("promise 28: isNear with an OFFSET of -2 to 1, at the ends of all PLACES, too", """
                isNear(0) = true
                minus(0) = 1
                isNear(0) = true
                put(0, true, 0, 1) = 1
                isNear(0) = true
                put(0, true, 0, 2) = 1
                isNear(0) = false
                put(0, true, 31, 0) = 1
                isNear(0) = true
                put(0, true, 31, -2) = 1
                isNear(0) = true
                put(0, true, 31, -3) = 1
                isNear(0) = false
                put(0, false, 16, -3) = 1
                isNear(0) = false
                put(0, false, 16, -2) = 1
                isNear(0) = true
                put(0, false, 16, 1) = 1
                isNear(0) = true
                put(0, false, 16, 2) = 1
                isNear(0) = false
                put(0, false, 16, 511) = 1
                isNear(0) = false
                """);
        Run.test("promise 29: isWithin also of those that are not NEAR, at just twice, and beyond EXPONENT 2045", """
                put(0, false, 18, 511) = 1
                put(1, false, 20, 511) = 1
                isWithin(0, 1) = true
                isWithin(1, 0) = true
                put(0, false, 18, 510) = 1
                isWithin(0, 1) = false
                isWithin(1, 0) = false
                put(0, true, 30, -512) = 1
                put(1, true, 31, -511) = 1
                isWithin(0, 1) = true
                put(1, true, 31, -510) = 1
                isWithin(0, 1) = false
                isWithin(1, 0) = false
                """);
    }

    private static void testExactAndHolds() {
        Run.test("promise 30: exact is REFUSED if they are not ADDABLE, and counted", """
                put(0, false, 16, 1) = 1
                put(1, false, 16, 2) = 1
                put(2, false, 30, 0) = 1
                put(3, false, 30, -1) = 1
                exact(0, 0, false) = 1
                exact(0, 1, true) = -9
                exact(1, 0, false) = -9
                exact(0, 2, true) = -9
                exact(2, 0, false) = -9
                exact(2, 2, true) = -9
                exact(3, 0, false) = 0
                house(2) = 5
                """);
        Run.test("promise 31: holds is REFUSED if they are not ADDABLE, and counted; otherwise it is 1", """
                put(0, false, 16, 1) = 1
                put(1, false, 16, 2) = 1
                put(2, false, 30, 0) = 1
                put(3, false, 30, -1) = 1
                put(4, true, 0, 0) = 1
                put(5, true, 0, 1) = 1
                holds(0, 1, true) = -9
                holds(1, 0, false) = -9
                holds(0, 2, true) = -9
                holds(2, 0, false) = -9
                holds(2, 2, true) = -9
                holds(3, 3, false) = 1
                holds(3, 5, true) = 1
                holds(5, 3, false) = 1
                holds(4, 4, false) = 1
                holds(4, 4, true) = 1
                holds(0, 5, false) = 1
                house(2) = 5
                """);
    }

    private static void testWalk() {
        Run.test("promise 32: walk of 1023 steps, in one WINDOW, up and down", """
                put(0, false, 16, -512) = 1
                put(1, false, 16, 511) = 1
                walk(0, 1) = 1023
                walk(1, 0) = 1023
                walk(0, 0) = 0
                put(0, true, 31, -512) = 1
                put(1, true, 31, 0) = 1
                walk(0, 1) = 512
                walk(1, 0) = 512
                """);
        Run.test("promise 32: walk over the ZERO, and to the VALUE of a ZERO with either SIGN", """
                put(0, true, 0, 511) = 1
                put(1, false, 0, 511) = 1
                walk(0, 1) = 1022
                walk(1, 0) = 1022
                put(2, true, 0, 0) = 1
                walk(0, 2) = 511
                walk(0, 3) = 511
                walk(2, 1) = 511
                walk(3, 1) = 511
                walk(2, 3) = 0
                walk(3, 2) = 0
                """);
        Run.test("promise 32: walk is REFUSED if their PLACES differ by more than 1023", """
                put(0, false, 16, 0) = 1
                put(1, true, 16, 0) = 1
                walk(0, 1) = -9
                put(1, false, 31, 0) = 1
                walk(0, 1) = -9
                walk(1, 0) = -9
                put(0, true, 31, 0) = 1
                walk(0, 1) = -9                                // further than 64 digits with a sign tell
                walk(1, 0) = -9
                put(0, true, 31, -512) = 1
                walk(0, 1) = -9
                house(2) = 6
                """);
    }

    private static void testWindow() {
        Run.test("promises 33 and 34: window is -1, and offset -9999, if there is none", """
                put(0, false, 16, 511) = 1
                up(0, 0) = 1
                window(true, 0) = -1
                offset(true, 0) = -9999
                down(0, 0) = 1
                window(true, 0) = 16
                offset(true, 0) = 510
                put(0, true, 16, -512) = 1
                up(0, 0) = 1
                window(true, 0) = -1
                offset(true, 0) = -9999
                keep(0, 0) = 1
                window(true, 0) = 16
                offset(true, 0) = -512
                put(0, true, 0, 511) = 1
                down(0, 0) = 1
                window(true, 0) = -1
                offset(true, 0) = -9999
                put(0, false, 1, -512) = 1
                down(0, 0) = 1
                window(true, 0) = -1
                put(0, false, 31, -512) = 1
                down(0, 0) = 1
                window(true, 0) = -1
                offset(true, 0) = -9999
                """);
        Run.test("promises 33 and 34: window and offset of both ZEROS, of TOP and of -TOP", """
                window(false, 0) = 0
                offset(false, 0) = 0
                minus(0) = 1
                window(false, 0) = 0
                offset(false, 0) = 0
                put(0, false, 31, 0) = 1
                window(false, 0) = 31
                offset(false, 0) = 0
                minus(0) = 1
                keep(0, 0) = 1
                window(true, 0) = 31
                offset(true, 0) = 0
                """);
    }

    private static void testDigits() {
        Run.test("promises 35 and 36: upper and lower as an int, below 0 if the first digit is 1", """
                upper(false, 0) = 0
                lower(false, 0) = 0
                minus(0) = 1
                upper(false, 0) = 0x80000000
                lower(false, 0) = 0
                put(0, true, 31, 0) = 1
                upper(false, 0) = 0xffefffff
                lower(false, 0) = 0xffffffff
                put(0, false, 31, 0) = 1
                upper(false, 0) = 0x7fefffff
                lower(false, 0) = 0xffffffff
                put(0, false, 22, 0) = 1
                keep(0, 0) = 1
                upper(true, 0) = 0x41980000
                lower(true, 0) = 1
                put(0, true, 16, -512) = 1
                up(0, 0) = 1
                upper(true, 0) = 0xbfefffff
                lower(true, 0) = 0xfffffdff
                """);
        Run.test("promises 37 and 38: parts and place of both ZEROS, of TOP and of -TOP", """
                parts(false, 0) = 0 0 0
                place(false, 0) = 0
                minus(0) = 1
                parts(false, 0) = 1 0 0
                place(false, 0) = 0
                put(0, false, 31, 0) = 1
                parts(false, 0) = 0 2046 4503599627370495
                place(false, 0) = 9218868437227405311
                minus(0) = 1
                keep(0, 0) = 1
                parts(true, 0) = 1 2046 4503599627370495
                place(true, 0) = -9218868437227405311
                """);
    }

    private static void testBetween() {
        Run.test("promise 39: between tells more than 63 digits can", """
                put(0, true, 31, 0) = 1
                put(1, false, 31, 0) = 1
                keep(1, 1) = 1
                between(false, 0, false, 1) = 18437736874454810622
                between(false, 1, false, 0) = -18437736874454810622
                between(false, 0, true, 1) = 18437736874454810622
                between(true, 1, false, 0) = -18437736874454810622
                put(2, true, 2, 4) = 1
                between(false, 2, false, 1) = 9223372036854775811
                put(2, true, 2, 0) = 1
                between(false, 2, false, 1) = 9223372036854775807
                put(2, true, 2, 1) = 1
                between(false, 2, false, 1) = 9223372036854775808
                between(false, 1, false, 2) = -9223372036854775808
                """);
        Run.test("promise 39: between of both ZEROS is 0, without '-'", """
                put(0, true, 0, 0) = 1
                between(false, 0, false, 1) = 0
                between(false, 1, false, 0) = 0
                between(false, 0, false, 0) = 0
                between(true, 0, false, 0) = 0
                put(1, false, 0, 1) = 1
                between(false, 0, false, 1) = 1
                between(false, 1, false, 0) = -1
                put(0, true, 0, 1) = 1
                between(false, 0, false, 1) = 2
                between(false, 1, false, 0) = -2
                """);
    }

    private static void testTexts() {
        Run.test("promise 40: binary of both ZEROS, and of the greatest and the least SIZE", """
                binary(false, 0) = 0*2^0
                minus(0) = 1
                binary(false, 0) = -0*2^0
                put(0, true, 31, 0) = 1
                binary(false, 0) = -9007199254740991*2^971
                put(0, true, 0, 1) = 1
                binary(false, 0) = -1*2^-1074
                """);
        Run.test("promises 41 and 42: decimal is empty, and decimals -1, if it has none", """
                put(0, false, 31, 0) = 1
                decimal(false, 0) =
                decimals(false, 0) = -1
                put(0, true, 0, 1) = 1
                decimal(false, 0) =
                decimals(false, 0) = -1
                keep(0, 0) = 1
                decimal(true, 0) =
                decimals(true, 0) = -1
                put(0, false, 28, 0) = 1
                decimal(false, 0) =
                put(0, false, 7, 0) = 1
                decimals(false, 0) = -1
                house(2) = 0
                """);
        Run.test("promise 42: decimals is 0 without a point, also of both ZEROS", """
                decimals(false, 0) = 0
                minus(0) = 1
                decimals(false, 0) = 0
                put(0, true, 16, 0) = 1
                decimals(false, 0) = 0
                put(0, false, 27, 0) = 1
                decimals(false, 0) = 0
                put(0, false, 24, 0) = 1
                decimals(false, 0) = 0
                put(0, false, 24, -1) = 1
                decimals(false, 0) = 1
                """);
        Run.test("promise 43: isSame is not of the two ZEROS, nor of those that differ by SIGN alone", """
                isSame(false, 0, true, 7) = true
                put(0, true, 0, 0) = 1
                isSame(false, 0, true, 7) = false
                isSame(true, 7, false, 0) = false
                isSame(false, 0, false, 0) = true
                put(0, false, 31, 0) = 1
                put(1, true, 31, 0) = 1
                isSame(false, 0, false, 1) = false
                keep(0, 0) = 1
                isSame(true, 0, false, 0) = true
                isSame(true, 0, true, 0) = true
                """);
    }

    private static void testOrder() {
        Run.test("promise 44: order by the VALUE, from -TOP to TOP", """
                put(0, true, 31, 0) = 1
                put(1, false, 31, 0) = 1
                order(false, 0, false, 1) = -1
                order(false, 1, false, 0) = 1
                put(2, true, 0, 1) = 1
                put(3, false, 0, 1) = 1
                order(false, 2, false, 3) = -1
                order(false, 3, false, 2) = 1
                order(false, 0, false, 2) = -1
                order(false, 2, false, 0) = 1
                order(false, 1, false, 3) = 1
                keep(1, 1) = 1
                order(true, 1, false, 1) = 0
                order(false, 0, true, 1) = -1
                """);
        Run.test("promise 44: order of one VALUE: -1 if just the first one has SIGN 1, 1 if just the other", """
                put(0, true, 0, 0) = 1
                order(false, 0, false, 1) = -1
                order(false, 1, false, 0) = 1
                order(false, 0, false, 0) = 0
                order(false, 1, false, 1) = 0
                order(false, 0, true, 0) = -1
                order(true, 0, false, 0) = 1
                put(2, true, 16, 0) = 1
                order(false, 2, false, 2) = 0
                put(3, true, 0, 1) = 1
                order(false, 0, false, 3) = 1
                order(false, 3, false, 0) = -1
                """);
    }
}

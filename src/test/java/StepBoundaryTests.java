/** Sections 4 and 5 of the document: steps, units, powers, shifts, and sums. */
final class StepBoundaryTests {
    private StepBoundaryTests() {
    }

    static void run() {
        testUp();
        testDown();
        testSizes();
        testTowards();
        testUnits();
        testShift();
        testAddable();
        testSums();
        testErrors();
        testWithin();
    }

    // ---- section 4

    private static void testUp() {
        Run.test("section 4: UP is AT the PLACE that is one greater, also in the next EXPONENT", """
                put(0, false, 2, -1) = 1
                up(0, 0) = 1
                parts(true, 0) = 0 1 0
                put(0, false, 18, -1) = 1
                up(0, 0) = 1
                parts(true, 0) = 0 1024 0
                put(0, true, 18, 0) = 1
                up(0, 0) = 1
                parts(true, 0) = 1 1023 4503599627370495
                put(0, true, 2, 0) = 1
                up(0, 0) = 1
                parts(true, 0) = 1 0 4503599627370495
                put(0, false, 30, -1) = 1
                up(0, 0) = 1
                parts(true, 0) = 0 2046 0
                """);
        Run.test("section 4: UP of the NUMBER with PLACE -1 is the ZERO with SIGN 1", """
                put(0, true, 0, 1) = 1
                place(false, 0) = -1
                up(0, 0) = 1
                parts(true, 0) = 1 0 0
                steps(0, 1, 1) = 1
                parts(true, 1) = 1 0 0
                put(1, true, 0, 2) = 1
                up(1, 2) = 1
                parts(true, 2) = 1 0 1
                """);
        Run.test("section 4: UP of both ZEROS is the NUMBER with PLACE 1", """
                up(0, 0) = 1
                parts(true, 0) = 0 0 1
                put(1, true, 0, 0) = 1
                up(1, 1) = 1
                parts(true, 1) = 0 0 1
                """);
        Run.test("section 4: at PLACE TOP there is no UP, one below there is", """
                put(0, false, 31, 0) = 1
                up(0, 0) = -9
                gap(0, true, 0) = -9
                steps(0, 1, 0) = -9
                parts(true, 0) = 0 0 0
                put(0, false, 31, -1) = 1
                up(0, 0) = 1
                parts(true, 0) = 0 2046 4503599627370495
                put(0, true, 31, 0) = 1
                up(0, 0) = 1                                   // PLACE -TOP has one
                parts(true, 0) = 1 2046 4503599627370494
                """);
    }

    private static void testDown() {
        Run.test("section 4: DOWN is AT the PLACE that is one less, also in the next EXPONENT", """
                put(0, false, 2, 0) = 1
                down(0, 0) = 1
                parts(true, 0) = 0 0 4503599627370495
                put(0, false, 18, 0) = 1
                down(0, 0) = 1
                parts(true, 0) = 0 1023 4503599627370495
                put(0, true, 18, -1) = 1
                down(0, 0) = 1
                parts(true, 0) = 1 1024 0
                put(0, true, 2, -1) = 1
                down(0, 0) = 1
                parts(true, 0) = 1 1 0
                put(0, false, 30, 0) = 1
                down(0, 0) = 1
                parts(true, 0) = 0 2045 4503599627370495
                """);
        Run.test("section 4: DOWN of the NUMBER with PLACE 1 is AT 0: the ZERO with SIGN 0", """
                put(0, false, 0, 1) = 1
                put(1, true, 0, 0) = 1
                keep(1, 0) = 1
                down(0, 0) = 1
                parts(true, 0) = 0 0 0
                keep(1, 0) = 1
                steps(0, -1, 0) = 1
                parts(true, 0) = 0 0 0
                """);
        Run.test("section 4: DOWN of both ZEROS is the NUMBER with PLACE -1", """
                down(0, 0) = 1
                parts(true, 0) = 1 0 1
                put(1, true, 0, 0) = 1
                down(1, 1) = 1
                parts(true, 1) = 1 0 1
                """);
        Run.test("section 4: at PLACE -TOP there is no DOWN, one above there is", """
                put(0, true, 31, 0) = 1
                down(0, 0) = -9
                gap(0, false, 0) = -9
                steps(0, -1, 0) = -9
                parts(true, 0) = 0 0 0
                put(0, true, 31, -1) = 1
                down(0, 0) = 1
                parts(true, 0) = 1 2046 4503599627370495
                put(0, false, 31, 0) = 1
                down(0, 0) = 1                                 // PLACE TOP has one
                parts(true, 0) = 0 2046 4503599627370494
                """);
    }

    private static void testSizes() {
        Run.test("section 4: of a SIZE, UP and DOWN are those of the NUMBER with SIGN 0", """
                put(0, true, 18, 0) = 1
                isEdge(0) = true                               // DOWN of 2, not of -2
                isUnitStep(0) = true                           // UP of 2, not of -2
                put(0, true, 18, -1) = 1
                isEdge(0) = false
                put(0, true, 31, 0) = 1
                isUnitStep(0) = true                           // no UP of the SIZE, but one of the NUMBER
                isEdge(0) = false
                """);
        Run.test("section 4: of the SIZE 0, DOWN is AT -1, with either SIGN of the NUMBER", """
                isEdge(0) = false                              // one step of 2^-1074, as the UNIT
                isUnitStep(0) = true
                minus(0) = 1
                isEdge(0) = false
                isUnitStep(0) = true
                """);
    }

    private static void testTowards() {
        Run.test("section 4: TOWARDS one with the same PLACE is that other one, by its SIGN for a ZERO", """
                put(1, true, 0, 0) = 1
                towards(0, 1, 0) = 1
                parts(true, 0) = 1 0 0
                towards(1, 0, 0) = 1
                parts(true, 0) = 0 0 0
                towards(1, 1, 0) = 1
                parts(true, 0) = 1 0 0
                put(2, false, 31, 0) = 1
                towards(2, 2, 0) = 1
                parts(true, 0) = 0 2046 4503599627370495
                put(3, true, 31, 0) = 1
                towards(3, 3, 0) = 1
                parts(true, 0) = 1 2046 4503599627370495
                """);
        Run.test("section 4: TOWARDS otherwise is AT the PLACE that is one nearer", """
                put(0, false, 31, 0) = 1
                put(1, true, 31, 0) = 1
                towards(0, 1, 0) = 1
                parts(true, 0) = 0 2046 4503599627370494
                towards(1, 0, 0) = 1
                parts(true, 0) = 1 2046 4503599627370494
                put(2, false, 31, -1) = 1
                towards(2, 0, 0) = 1                           // it comes to TOP
                parts(true, 0) = 0 2046 4503599627370495
                put(3, false, 2, -1) = 1
                towards(3, 0, 0) = 1                           // into the next EXPONENT
                parts(true, 0) = 0 1 0
                put(3, true, 2, 0) = 1
                towards(3, 0, 0) = 1
                parts(true, 0) = 1 0 4503599627370495
                towards(3, 1, 0) = 1
                parts(true, 0) = 1 1 1
                put(4, false, 0, 0) = 0
                put(5, true, 0, 0) = 1
                towards(4, 1, 0) = 1                           // from a ZERO: its SIGN does not count
                parts(true, 0) = 1 0 1
                towards(5, 1, 0) = 0
                towards(5, 0, 0) = 1
                parts(true, 0) = 0 0 1
                towards(4, 0, 0) = 0
                """);
        Run.test("section 4: TOWARDS: a ZERO to which it comes has the SIGN of the one that was left", """
                put(0, false, 0, 1) = 1
                put(1, true, 0, 1) = 1
                put(2, true, 0, 0) = 1
                put(3, false, 0, 0) = 0
                keep(2, 0) = 1
                towards(0, 1, 0) = 1
                parts(true, 0) = 0 0 0
                towards(1, 0, 0) = 1
                parts(true, 0) = 1 0 0
                towards(0, 3, 0) = 1
                parts(true, 0) = 0 0 0
                towards(1, 2, 0) = 1
                parts(true, 0) = 1 0 0
                towards(0, 2, 0) = 1                           // the other one is a ZERO with SIGN 1
                parts(true, 0) = 0 0 0
                towards(1, 3, 0) = 1                           // the other one is a ZERO with SIGN 0
                parts(true, 0) = 1 0 0
                """);
    }

    private static void testUnits() {
        Run.test("section 4: UNIT is 2^(e - 1075), where e is at least 1", """
                unit(0, 0) = 1
                parts(true, 0) = 0 0 1                         // EXPONENT 0, FRACTION 0
                put(0, false, 2, -1) = 1
                unit(0, 0) = 0                                 // EXPONENT 0
                put(0, false, 2, 0) = 1
                unit(0, 0) = 0                                 // EXPONENT 1
                put(0, false, 3, -1) = 1
                unit(0, 0) = 0                                 // EXPONENT 1, the last one
                put(0, false, 3, 0) = 1
                unit(0, 0) = 1                                 // EXPONENT 2
                parts(true, 0) = 0 0 2
                put(0, false, 4, 0) = 1
                unit(0, 0) = 1                                 // EXPONENT 52
                parts(true, 0) = 0 0 2251799813685248
                put(0, false, 5, 0) = 1
                unit(0, 0) = 1                                 // EXPONENT 53
                parts(true, 0) = 0 1 0
                put(0, false, 31, 0) = 1
                unit(0, 0) = 1                                 // EXPONENT 2046
                parts(true, 0) = 0 1994 0
                """);
        Run.test("section 4: POWER is EXPONENT - 1023, also of EXPONENT 0 and 2046", """
                power(0) = -1023
                put(0, false, 2, -1) = 1
                power(0) = -1023
                put(0, false, 2, 0) = 1
                power(0) = -1022
                put(0, false, 16, -1) = 1
                power(0) = -1
                put(0, false, 16, 0) = 1
                power(0) = 0
                put(0, false, 30, -1) = 1
                power(0) = 1022
                put(0, false, 30, 0) = 1
                power(0) = 1023
                """);
        Run.test("section 4: UNIT and POWER go without regard to SIGN", """
                put(0, true, 3, 0) = 1
                unit(0, 0) = 1
                parts(true, 0) = 0 0 2
                unitByPower(0, 0) = 0
                power(0) = -1021
                powerByUnit(0) = -1021
                put(0, true, 0, 0) = 1
                unit(0, 0) = 1
                parts(true, 0) = 0 0 1
                unitByPower(0, 0) = 0
                power(0) = -1023
                powerByUnit(0) = -1022
                put(0, true, 31, 0) = 1
                unit(0, 0) = 1
                parts(true, 0) = 0 1994 0
                power(0) = 1023
                """);
    }

    private static void testShift() {
        Run.test("section 4: the k of a shift is itself, if that is -64 to 63", """
                put(0, false, 16, 0) = 1
                shift(0, 0, 0) = 1
                binary(true, 0) = 1*2^0
                shift(0, 1, 0) = 1
                binary(true, 0) = 1*2^1
                shift(0, 63, 0) = 1
                binary(true, 0) = 1*2^63
                shift(0, -1, 0) = 1
                binary(true, 0) = 1*2^-1
                shift(0, -64, 0) = 1
                binary(true, 0) = 1*2^-64
                """);
        Run.test("section 4: the k of a shift is (s + 64) * 33 - 64, if it is less than -64", """
                put(0, false, 16, 0) = 1
                shift(0, -65, 0) = 1
                binary(true, 0) = 1*2^-97
                shift(0, -66, 0) = 1
                binary(true, 0) = 1*2^-130
                shift(0, -94, 0) = 1
                binary(true, 0) = 1*2^-1054
                shift(0, -95, 0) = 1                           // 2^-1087
                binary(true, 0) = 0*2^0
                put(0, false, 31, 0) = 1
                shift(0, -125, 0) = 1                          // 2^21 - 2^-32, of the least NUMBERS
                binary(true, 0) = 1*2^-1053
                shift(0, -126, 0) = 1
                binary(true, 0) = 0*2^0
                shift(0, -128, 0) = 0
                """);
        Run.test("section 4: the k of a shift is (s - 63) * 33 + 63, if it is greater than 63", """
                put(0, false, 16, 0) = 1
                shift(0, 64, 0) = 1
                binary(true, 0) = 1*2^96
                shift(0, 65, 0) = 1
                binary(true, 0) = 1*2^129
                shift(0, 92, 0) = 1
                binary(true, 0) = 1*2^1020
                shift(0, 93, 0) = -9                           // 2^1053
                put(0, false, 0, 1) = 1
                shift(0, 124, 0) = 1                           // 2^(2076 - 1074)
                binary(true, 0) = 1*2^1002
                shift(0, 125, 0) = -9                          // 2^(2109 - 1074)
                shift(0, 127, 0) = -9
                """);
        Run.test("section 4: SHIFT is ROUNDED once, at the least NUMBERS", """
                put(0, false, 2, 1) = 1
                shift(0, -52, 0) = 1                           // 1 + 2^-52 of the least
                parts(true, 0) = 0 0 1
                shift(0, -53, 0) = 0                           // 1/2 + 2^-53 of it
                shift(0, -54, 0) = 1                           // 1/4 + 2^-54 of it
                parts(true, 0) = 0 0 0
                put(0, false, 16, 1) = 1
                shift(0, -94, 0) = 1                           // 2^-1054: 20 digits are left
                parts(true, 0) = 0 0 1048576
                put(0, false, 12, 0) = 1
                shift(0, -94, 0) = 1                           // 0.1 * 2^-1054
                parts(true, 0) = 0 0 104858
                put(0, false, 13, 0) = 1
                shift(0, -94, 0) = 1                           // 1/3 * 2^-1054
                parts(true, 0) = 0 0 349525
                """);
        Run.test("section 4: SHIFT out of EXPONENT 0, and into it, keeps all digits that there are", """
                put(0, false, 0, 1) = 1
                shift(0, 52, 0) = 1
                parts(true, 0) = 0 1 0
                shift(0, 51, 0) = 1
                parts(true, 0) = 0 0 2251799813685248
                put(0, false, 2, -1) = 1
                shift(0, 1, 0) = 1
                parts(true, 0) = 0 1 4503599627370494
                put(0, false, 1, 1) = 1
                shift(0, 1, 0) = 1
                parts(true, 0) = 0 1 2
                put(0, true, 3, 0) = 1
                shift(0, -1, 0) = 1
                parts(true, 0) = 1 1 0
                shift(0, -2, 0) = 1
                parts(true, 0) = 1 0 2251799813685248
                shift(0, -53, 0) = 1
                parts(true, 0) = 1 0 1
                """);
        Run.test("section 4: SHIFT of a ZERO is the SAME one", """
                shift(0, 127, 0) = 0
                shift(0, -128, 0) = 0
                shift(0, 0, 0) = 0
                parts(true, 0) = 0 0 0
                minus(0) = 1
                shift(0, 127, 0) = 1
                parts(true, 0) = 1 0 0
                shift(0, 63, 0) = 0
                shift(0, -128, 0) = 0
                shift(0, -1, 0) = 0
                parts(true, 0) = 1 0 0
                """);
    }

    // ---- section 5

    private static void testAddable() {
        Run.test("section 5: two are ADDABLE, if no EXPONENT is above 2045", """
                put(0, false, 30, -1) = 1                      // EXPONENT 2045
                put(1, false, 30, 0) = 1                       // EXPONENT 2046
                put(2, false, 16, 0) = 1
                sum(0, 2, false, 0) = 1
                sum(2, 0, true, 0) = 1
                error(0, 2, false, 1) = 1
                exact(2, 0, false) = 0
                holds(0, 0, true) = 1
                sum(1, 2, false, 0) = -9
                sum(2, 1, true, 0) = -9
                sum(1, 1, true, 0) = -9
                error(1, 2, false, 0) = -9
                error(2, 1, true, 0) = -9
                exact(1, 2, false) = -9
                exact(2, 1, true) = -9
                holds(1, 2, false) = -9
                holds(2, 1, true) = -9
                put(1, true, 30, 0) = 1                        // with SIGN 1 likewise
                sum(1, 2, false, 0) = -9
                put(1, true, 31, 0) = 1
                exact(2, 1, false) = -9
                put(1, true, 30, -1) = 1
                exact(1, 0, false) = 1
                """);
        Run.test("section 5: two are ADDABLE, if both are NEAR", """
                put(0, false, 16, -2) = 1
                put(1, false, 16, -3) = 1
                put(2, false, 16, 1) = 1
                put(3, true, 16, 2) = 1
                exact(0, 2, false) = 1
                exact(1, 2, false) = -9
                exact(2, 1, true) = -9
                exact(3, 0, false) = -9
                exact(0, 3, true) = -9
                exact(1, 3, true) = -9
                holds(1, 1, true) = -9
                sum(0, 3, true, 0) = -9
                error(1, 0, true, 0) = -9
                sum(0, 2, true, 0) = 1
                """);
        Run.test("section 5: a SUM may have the EXPONENT 2046, up to TOP", """
                put(0, false, 30, -1) = 1
                sum(0, 0, false, 0) = 1                        // 2^1024 - 2^971
                parts(true, 0) = 0 2046 4503599627370495
                exact(0, 0, false) = 1
                put(1, false, 29, 0) = 1
                sum(1, 1, false, 0) = 1
                parts(true, 0) = 0 2046 0
                minus(0) = 1
                sum(0, 0, false, 0) = 1
                parts(true, 0) = 1 2046 4503599627370495
                put(2, false, 0, 1) = 1
                sum(0, 2, false, 0) = 1
                parts(true, 0) = 1 2045 4503599627370495
                """);
        Run.test("section 5: in a difference the other one has its other SIGN, also if it is a ZERO", """
                put(0, false, 18, 0) = 1
                put(1, false, 16, 0) = 1
                sum(0, 1, true, 0) = 1
                parts(true, 0) = 0 1023 0
                sum(1, 0, true, 0) = 1
                parts(true, 0) = 1 1023 0
                put(0, true, 0, 0) = 1
                put(1, false, 0, 0) = 1
                sum(0, 1, true, 0) = 1                         // both that are added have SIGN 1
                parts(true, 0) = 1 0 0
                sum(1, 0, true, 0) = 1                         // both have SIGN 0
                parts(true, 0) = 0 0 0
                isSame(false, 0, false, 1) = false
                """);
    }

    private static void testSums() {
        Run.test("section 5: a SUM of 0 is the ZERO with SIGN 1, if both that are added are such ZEROS", """
                put(0, true, 0, 0) = 1
                put(1, true, 0, 0) = 1
                sum(0, 1, false, 0) = 1
                parts(true, 0) = 1 0 0
                sum(0, 0, false, 0) = 0
                put(1, false, 0, 0) = 1
                sum(0, 1, true, 0) = 0
                parts(true, 0) = 1 0 0
                """);
        Run.test("section 5: a SUM of 0 is otherwise the ZERO with SIGN 0", """
                put(0, true, 0, 0) = 1
                keep(0, 7) = 1
                sum(0, 1, false, 7) = 1                        // just the first one has SIGN 1
                parts(true, 7) = 0 0 0
                keep(0, 7) = 1
                sum(1, 0, false, 7) = 1                        // just the other one has
                parts(true, 7) = 0 0 0
                keep(0, 7) = 1
                sum(0, 0, true, 7) = 1
                parts(true, 7) = 0 0 0
                sum(1, 1, true, 7) = 0
                sum(1, 1, false, 7) = 0
                put(2, true, 12, 1) = 1
                keep(0, 7) = 1
                sum(2, 2, true, 7) = 1                         // below 0, less the SAME
                parts(true, 7) = 0 0 0
                put(3, false, 12, 1) = 1
                keep(0, 7) = 1
                sum(2, 3, false, 7) = 1
                parts(true, 7) = 0 0 0
                keep(0, 7) = 1
                sum(3, 2, false, 7) = 1
                parts(true, 7) = 0 0 0
                """);
        Run.test("section 5: a SUM with a ZERO is the other one", """
                put(0, true, 0, 0) = 1
                put(1, true, 0, 1) = 1
                sum(0, 1, false, 0) = 1
                parts(true, 0) = 1 0 1
                sum(1, 2, true, 0) = 0
                sum(2, 1, true, 0) = 1
                parts(true, 0) = 0 0 1
                exact(2, 1, true) = 1
                put(1, false, 30, -1) = 1
                sum(1, 0, true, 0) = 1
                parts(true, 0) = 0 2045 4503599627370495
                """);
        Run.test("section 5: SUMS of the least NUMBERS, EXPONENT 0 and 1, are EXACT", """
                put(0, false, 2, -1) = 1
                put(1, false, 0, 1) = 1
                sum(0, 1, false, 0) = 1
                parts(true, 0) = 0 1 0
                put(2, false, 2, 0) = 1
                sum(2, 0, true, 0) = 1
                parts(true, 0) = 0 0 1
                sum(2, 1, true, 0) = 1
                parts(true, 0) = 0 0 4503599627370495
                sum(1, 2, true, 0) = 1
                parts(true, 0) = 1 0 4503599627370495
                sum(2, 2, false, 0) = 1
                parts(true, 0) = 0 2 0
                exact(2, 2, false) = 1
                put(3, false, 3, 1) = 1
                sum(3, 1, false, 0) = 1                        // half a step above: to the even FRACTION
                parts(true, 0) = 0 2 2
                exact(3, 1, false) = 0
                """);
    }

    private static void testErrors() {
        Run.test("section 5: ERROR is what the SUM is too small, with SIGN 1 what it is too great", """
                put(0, false, 16, 0) = 1
                put(1, false, 9, 0) = 1
                error(0, 1, false, 0) = 1                      // the SUM is 1
                parts(true, 0) = 0 970 0
                put(0, false, 16, 1) = 1
                error(0, 1, false, 0) = 1                      // the SUM is 1 + 2^-51
                parts(true, 0) = 1 970 0
                error(0, 1, true, 0) = 1
                parts(true, 0) = 0 970 0
                put(1, false, 30, -1) = 1
                error(0, 1, false, 0) = 1                      // the lesser one is lost as a whole
                parts(true, 0) = 0 1023 1
                error(1, 0, true, 0) = 1
                parts(true, 0) = 1 1023 1
                error(0, 1, true, 0) = 1
                parts(true, 0) = 0 1023 1
                """);
        Run.test("section 5: there is always an ERROR, down to the least NUMBER", """
                put(0, false, 16, 0) = 1
                put(1, false, 0, 1) = 1
                error(0, 1, false, 0) = 1
                parts(true, 0) = 0 0 1
                error(1, 0, true, 0) = 0
                error(0, 1, true, 0) = 1
                parts(true, 0) = 1 0 1
                put(0, false, 30, -1) = 1
                error(0, 1, true, 0) = 0
                put(0, false, 3, 1) = 1
                error(0, 1, false, 0) = 0
                error(0, 1, true, 0) = 1
                parts(true, 0) = 0 0 1
                """);
        Run.test("section 5: an ERROR of 0 is the ZERO with SIGN 0, whatever the SUM is", """
                put(0, true, 0, 0) = 1
                keep(0, 7) = 1
                error(0, 0, false, 7) = 1                      // the SUM is the ZERO with SIGN 1
                parts(true, 7) = 0 0 0
                keep(0, 7) = 1
                error(0, 0, true, 7) = 1
                parts(true, 7) = 0 0 0
                put(1, true, 16, 0) = 1
                keep(0, 7) = 1
                error(1, 1, false, 7) = 1                      // the SUM is -2
                parts(true, 7) = 0 0 0
                keep(0, 7) = 1
                error(1, 1, true, 7) = 1
                parts(true, 7) = 0 0 0
                keep(0, 7) = 1
                error(0, 1, false, 7) = 1
                parts(true, 7) = 0 0 0
                keep(0, 7) = 1
                error(1, 0, true, 7) = 1
                parts(true, 7) = 0 0 0
                """);
        Run.test("section 5: EXACT: the ERROR is a ZERO", """
                exact(0, 0, false) = 1
                put(0, false, 16, 0) = 1
                put(1, false, 10, 0) = 1
                exact(0, 1, false) = 1                         // a whole step
                put(1, false, 9, 0) = 1
                exact(0, 1, false) = 0                         // half a step
                exact(0, 1, true) = 1                          // a whole step below
                put(1, false, 8, 0) = 1
                exact(0, 1, true) = 0                          // half a step below
                put(1, true, 0, 1) = 1
                exact(0, 1, false) = 0
                exact(1, 0, true) = 0
                put(0, true, 0, 1) = 1
                exact(0, 1, false) = 1
                exact(0, 1, true) = 1
                """);
    }

    private static void testWithin() {
        Run.test("section 5: WITHIN a factor of two, if no SIZE is above twice the other one", """
                put(0, false, 18, 0) = 1
                put(1, false, 20, 0) = 1
                isWithin(0, 1) = true                          // just twice
                isWithin(1, 0) = true
                put(1, false, 20, 1) = 1
                isWithin(0, 1) = false                         // above twice
                isWithin(1, 0) = false
                put(0, false, 18, 1) = 1
                isWithin(0, 1) = true                          // just twice
                isWithin(1, 0) = true
                put(1, false, 20, -1) = 1
                put(0, false, 18, -1) = 1
                isWithin(0, 1) = true                          // just twice
                put(0, false, 18, -2) = 1
                isWithin(0, 1) = false                         // above twice
                isWithin(1, 0) = false
                isWithin(1, 1) = true
                """);
        Run.test("section 5: WITHIN at just twice, of the least NUMBERS, EXPONENT 0 and 1", """
                put(0, true, 0, 1) = 1
                put(1, true, 0, 2) = 1
                isWithin(0, 1) = true
                isWithin(1, 0) = true
                put(1, true, 0, 3) = 1
                isWithin(0, 1) = false
                isWithin(1, 0) = false
                put(0, true, 0, 2) = 1
                isWithin(1, 0) = true
                put(0, false, 1, 0) = 1
                put(1, false, 2, 0) = 1
                isWithin(0, 1) = true                          // from EXPONENT 0 to 1
                isWithin(1, 0) = true
                put(1, false, 2, 1) = 1
                isWithin(0, 1) = false
                put(0, false, 1, 1) = 1
                isWithin(1, 0) = true
                put(1, false, 2, 2) = 1
                isWithin(1, 0) = true
                put(1, false, 2, 3) = 1
                isWithin(1, 0) = false
                put(0, false, 2, -1) = 1
                put(1, false, 3, -2) = 1
                isWithin(1, 0) = true
                put(1, false, 3, -1) = 1
                isWithin(1, 0) = false
                isWithin(0, 1) = false
                """);
        Run.test("section 5: WITHIN at just twice, of the greatest NUMBERS", """
                put(0, false, 31, 0) = 1
                put(1, false, 30, -1) = 1
                isWithin(0, 1) = true
                isWithin(1, 0) = true
                put(1, false, 30, -2) = 1
                isWithin(0, 1) = false
                put(0, false, 31, -1) = 1
                isWithin(1, 0) = true
                isWithin(0, 0) = true
                put(1, false, 29, 0) = 1
                isWithin(1, 0) = false
                """);
        Run.test("section 5: WITHIN needs the same SIGN", """
                put(0, false, 16, 0) = 1
                put(1, true, 16, 0) = 1
                isWithin(0, 1) = false
                isWithin(1, 0) = false
                isWithin(1, 1) = true
                put(0, true, 16, 1) = 1
                isWithin(0, 1) = true
                """);
        Run.test("section 5: two ZEROS of one SIGN are WITHIN a factor of two, other ZEROS are not", """
                isWithin(0, 1) = true
                put(0, true, 0, 0) = 1
                isWithin(0, 1) = false
                isWithin(1, 0) = false
                put(1, true, 0, 0) = 1
                isWithin(0, 1) = true
                put(1, true, 0, 1) = 1
                isWithin(0, 1) = false                         // a ZERO and the least SIZE
                isWithin(1, 0) = false
                put(0, false, 0, 0) = 1
                put(1, false, 0, 1) = 1
                isWithin(0, 1) = false
                isWithin(1, 0) = false
                """);
    }
}

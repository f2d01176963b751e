/** Promises 9 to 23: what becomes an ANSWER, and what is refused there. */
final class AnswerBoundaryTests {
    private AnswerBoundaryTests() {
    }

    static void run() {
        testNeighbours();
        testSteps();
        testStepsAtZero();
        testTowards();
        testShift();
        testUnits();
        testGap();
        testSums();
        testMiddle();
        testLeast();
        testRead();
    }

    private static void testNeighbours() {
        Run.test("promise 9: keep of both ZEROS, and of the greatest and the least NUMBER", """
                keep(0, 0) = 0
                put(0, true, 0, 0) = 1
                keep(0, 0) = 1
                keep(0, 0) = 0
                parts(true, 0) = 1 0 0
                put(0, false, 31, 0) = 1
                keep(0, 7) = 1
                parts(true, 7) = 0 2046 4503599627370495
                put(0, true, 31, 0) = 1
                keep(0, 7) = 1
                parts(true, 7) = 1 2046 4503599627370495
                house(1) = 5
                """);
        Run.test("promise 10: up is REFUSED if there is none, at TOP alone", """
                put(0, false, 31, 0) = 1
                up(0, 0) = -9
                put(1, true, 31, 0) = 1
                up(1, 1) = 1
                put(2, false, 31, -1) = 1
                up(2, 2) = 1
                parts(true, 0) = 0 0 0
                parts(true, 1) = 1 2046 4503599627370494
                parts(true, 2) = 0 2046 4503599627370495
                house(1) = 2
                house(2) = 1
                """);
        Run.test("promise 10: up comes out of the SET, too", """
                put(0, false, 16, 511) = 1
                up(0, 0) = 1
                parts(true, 0) = 0 1023 512
                window(true, 0) = -1
                put(0, true, 16, -512) = 1
                up(0, 0) = 1
                parts(true, 0) = 1 1022 4503599627369983
                window(true, 0) = -1
                """);
        Run.test("promise 11: down is REFUSED if there is none, at -TOP alone", """
                put(0, true, 31, 0) = 1
                down(0, 0) = -9
                put(1, false, 31, 0) = 1
                down(1, 1) = 1
                put(2, true, 31, -1) = 1
                down(2, 2) = 1
                parts(true, 0) = 0 0 0
                parts(true, 1) = 0 2046 4503599627370494
                parts(true, 2) = 1 2046 4503599627370495
                house(1) = 2
                house(2) = 1
                """);
        Run.test("promise 11: down comes out of the SET, too", """
                put(0, false, 16, -512) = 1
                down(0, 0) = 1
                parts(true, 0) = 0 1022 4503599627369983
                window(true, 0) = -1
                put(0, true, 16, 511) = 1
                down(0, 0) = 1
                parts(true, 0) = 1 1023 512
                window(true, 0) = -1
                """);
    }

    private static void testSteps() {
        Run.test("promise 12: 0 steps: the ARGUMENT itself, also a ZERO with SIGN 1", """
                put(0, true, 0, 0) = 1
                steps(0, 0, 0) = 1
                parts(true, 0) = 1 0 0
                steps(1, 0, 0) = 1
                parts(true, 0) = 0 0 0
                put(0, false, 31, 0) = 1
                steps(0, 0, 0) = 1
                parts(true, 0) = 0 2046 4503599627370495
                put(0, true, 31, 0) = 1
                steps(0, 0, 0) = 1
                parts(true, 0) = 1 2046 4503599627370495
                steps(0, 0, 0) = 0
                """);
        Run.test("promise 12: 1023 steps, up and down, lead from one end of a WINDOW to the other", """
                put(0, false, 16, -512) = 1
                steps(0, 1023, 0) = 1
                parts(true, 0) = 0 1023 511
                put(1, false, 16, 511) = 1
                steps(1, -1023, 0) = 1
                parts(true, 0) = 0 1022 4503599627369984
                put(0, true, 16, -512) = 1
                steps(0, -1023, 0) = 1
                parts(true, 0) = 1 1023 511
                put(1, true, 16, 511) = 1
                steps(1, 1023, 0) = 1
                parts(true, 0) = 1 1022 4503599627369984
                """);
        Run.test("promise 12: steps is REFUSED if none of the SET has the PLACE, one beyond a WINDOW", """
                put(0, false, 16, -512) = 1
                steps(0, -1, 0) = -9
                steps(0, -1023, 0) = -9
                put(0, false, 16, -511) = 1
                steps(0, 1023, 0) = -9
                steps(0, -1, 0) = 1
                put(0, true, 16, 511) = 1
                steps(0, -1, 0) = -9
                put(0, true, 16, 510) = 1
                steps(0, 1023, 0) = -9
                steps(0, -1, 0) = 1
                parts(true, 0) = 1 1023 511
                house(1) = 2
                house(2) = 5
                """);
        Run.test("promise 12: steps is REFUSED beyond TOP and -TOP", """
                put(0, false, 31, 0) = 1
                steps(0, 1, 0) = -9
                steps(0, 512, 0) = -9
                steps(0, 1023, 0) = -9
                put(0, false, 31, -1) = 1
                steps(0, 1, 0) = 1
                parts(true, 0) = 0 2046 4503599627370495
                steps(0, 2, 0) = -9
                put(0, true, 31, 0) = 1
                steps(0, -1, 0) = -9
                steps(0, -1023, 0) = -9
                put(0, true, 31, -512) = 1
                steps(0, -512, 0) = 1
                parts(true, 0) = 1 2046 4503599627370495
                steps(0, -513, 0) = -9
                steps(0, 1, 0) = -9
                house(2) = 8
                """);
    }

    private static void testStepsAtZero() {
        Run.test("promise 12: steps UP to the ZERO from below have SIGN 1, DOWN from above SIGN 0", """
                put(0, true, 0, 400) = 1
                steps(0, 400, 0) = 1
                parts(true, 0) = 1 0 0
                put(1, false, 0, 400) = 1
                steps(1, -400, 0) = 1
                parts(true, 0) = 0 0 0
                put(0, true, 0, 511) = 1
                steps(0, 511, 0) = 1
                parts(true, 0) = 1 0 0
                put(1, false, 0, 1) = 1
                steps(1, -1, 0) = 1
                parts(true, 0) = 0 0 0
                """);
        Run.test("promise 12: steps over the ZERO: it counts once", """
                put(0, true, 0, 511) = 1
                steps(0, 512, 0) = 1
                parts(true, 0) = 0 0 1
                steps(0, 1022, 0) = 1
                parts(true, 0) = 0 0 511
                steps(0, 1023, 0) = -9
                put(0, false, 0, 511) = 1
                steps(0, -512, 0) = 1
                parts(true, 0) = 1 0 1
                steps(0, -1022, 0) = 1
                parts(true, 0) = 1 0 511
                steps(0, -1023, 0) = -9
                put(0, true, 0, 1) = 1
                steps(0, 2, 0) = 1
                parts(true, 0) = 0 0 1
                """);
        Run.test("promise 12: steps from both ZEROS, also out of their WINDOW", """
                put(1, true, 0, 0) = 1
                steps(0, 1, 0) = 1
                parts(true, 0) = 0 0 1
                steps(1, 1, 0) = 0
                steps(0, -1, 0) = 1
                parts(true, 0) = 1 0 1
                steps(1, -1, 0) = 0
                steps(1, 511, 0) = 1
                parts(true, 0) = 0 0 511
                steps(0, -511, 0) = 1
                parts(true, 0) = 1 0 511
                steps(0, 512, 0) = -9
                steps(1, -512, 0) = -9
                steps(1, 1023, 0) = -9
                """);
    }

    private static void testTowards() {
        Run.test("promise 13: towards is REFUSED if not both are NEAR", """
                put(0, false, 16, -2) = 1
                put(1, true, 16, 1) = 1
                put(2, false, 16, -3) = 1
                put(3, true, 16, 2) = 1
                towards(0, 1, 0) = 1
                towards(1, 0, 0) = 1
                towards(0, 2, 0) = -9
                towards(2, 0, 0) = -9
                towards(1, 3, 0) = -9
                towards(3, 1, 0) = -9
                towards(2, 3, 0) = -9
                towards(3, 3, 0) = -9                          // also if both have the same PLACE
                parts(true, 0) = 1 1023 0
                house(1) = 2
                house(2) = 6
                """);
        Run.test("promise 13: towards itself, and towards the other ZERO, is done", """
                put(0, false, 31, 0) = 1
                towards(0, 0, 0) = 1
                towards(0, 0, 0) = 0
                put(1, true, 0, 0) = 1
                towards(2, 1, 0) = 1
                parts(true, 0) = 1 0 0
                towards(1, 2, 0) = 1
                parts(true, 0) = 0 0 0
                """);
    }

    private static void testShift() {
        Run.test("promise 14: shift is REFUSED if the ARGUMENT is not NEAR", """
                put(0, false, 16, -2) = 1
                shift(0, 0, 0) = 1
                put(0, true, 16, 1) = 1
                shift(0, 0, 0) = 1
                put(0, false, 16, -3) = 1
                shift(0, 0, 0) = -9
                put(0, true, 16, 2) = 1
                shift(0, 0, 0) = -9
                shift(0, -128, 0) = -9
                put(0, false, 0, 2) = 1
                shift(0, 1, 0) = -9
                put(0, false, 31, -3) = 1
                shift(0, -1, 0) = -9
                parts(true, 0) = 1 1023 1
                house(2) = 5
                """);
        Run.test("promise 14: shift is REFUSED if ROUNDED there is NONE, but not if it is a ZERO", """
                put(0, false, 30, 0) = 1
                shift(0, 0, 0) = 1
                shift(0, 1, 0) = -9
                shift(0, 127, 0) = -9
                shift(0, -128, 0) = 1
                parts(true, 0) = 0 0 0
                put(0, true, 30, 0) = 1
                shift(0, 1, 0) = -9
                shift(0, -128, 0) = 1
                parts(true, 0) = 1 0 0
                put(0, false, 29, 0) = 1
                shift(0, 1, 0) = 1
                shift(0, 2, 0) = -9
                parts(true, 0) = 0 2046 0
                house(2) = 4
                """);
        Run.test("promise 14: a shift is at least -128 and at most 127", """
                shift(0, -128, 0) = 0
                shift(0, 127, 0) = 0
                shift(0, -129, 0) = throws.IllegalArgumentException
                shift(0, 128, 0) = throws.IllegalArgumentException
                house(1) = 2
                """);
    }

    private static void testUnits() {
        Run.test("promise 15: unit of ZEROS, and at the step from EXPONENT 1 to 2", """
                put(0, true, 0, 0) = 1
                unit(0, 0) = 1
                parts(true, 0) = 0 0 1
                put(0, true, 3, -1) = 1
                unit(0, 0) = 0
                put(0, true, 3, 0) = 1
                unit(0, 0) = 1
                parts(true, 0) = 0 0 2
                """);
        Run.test("promise 16: unitByPower takes a POWER of at least -1022", """
                put(0, true, 0, 0) = 1
                unitByPower(0, 0) = 1                          // POWER -1023
                parts(true, 0) = 0 0 1
                put(0, false, 2, -1) = 1
                unitByPower(0, 0) = 0                          // POWER -1023
                put(0, false, 2, 0) = 1
                unitByPower(0, 0) = 0                          // POWER -1022
                put(0, false, 3, 0) = 1
                unitByPower(0, 0) = 1                          // POWER -1021
                parts(true, 0) = 0 0 2
                put(0, false, 4, 0) = 1
                unitByPower(0, 0) = 1
                parts(true, 0) = 0 0 2251799813685248
                put(0, false, 5, 0) = 1
                unitByPower(0, 0) = 1
                parts(true, 0) = 0 1 0
                put(0, true, 31, 0) = 1
                unitByPower(0, 0) = 1                          // POWER 1023
                parts(true, 0) = 0 1994 0
                """);
    }

    private static void testGap() {
        Run.test("promise 17: gap is REFUSED if there is no UP, or DOWN", """
                put(0, false, 31, 0) = 1
                gap(0, true, 0) = -9
                gap(0, false, 0) = 1
                parts(true, 0) = 0 1994 0
                put(0, true, 31, 0) = 1
                gap(0, false, 0) = -9
                gap(0, true, 0) = 0
                put(0, false, 31, -1) = 1
                gap(0, true, 0) = 0
                put(0, true, 31, -1) = 1
                gap(0, false, 0) = 0
                house(1) = 4
                house(2) = 2
                """);
        Run.test("promise 17: gap has SIGN 0, at the ZEROS and next to them, too", """
                gap(0, true, 0) = 1
                parts(true, 0) = 0 0 1
                gap(0, false, 0) = 0
                minus(0) = 1
                gap(0, true, 0) = 0
                gap(0, false, 0) = 0
                put(0, true, 0, 1) = 1
                gap(0, true, 0) = 0
                gap(0, false, 0) = 0
                put(0, false, 0, 1) = 1
                gap(0, true, 0) = 0
                gap(0, false, 0) = 0
                """);
        Run.test("promise 17: gap below a power of two is half the one above, but not from EXPONENT 1 on down", """
                put(0, false, 18, 0) = 1
                gap(0, true, 0) = 1
                binary(true, 0) = 1*2^-51
                gap(0, false, 0) = 1
                binary(true, 0) = 1*2^-52
                put(0, true, 18, 0) = 1
                gap(0, false, 0) = 1                           // with SIGN 1 the other way
                binary(true, 0) = 1*2^-51
                gap(0, true, 0) = 1
                binary(true, 0) = 1*2^-52
                put(0, false, 3, 0) = 1
                gap(0, true, 0) = 1
                binary(true, 0) = 1*2^-1073
                gap(0, false, 0) = 1
                binary(true, 0) = 1*2^-1074
                put(0, false, 2, 0) = 1
                gap(0, true, 0) = 0
                gap(0, false, 0) = 0
                """);
    }

    private static void testSums() {
        Run.test("promise 18: sum is REFUSED if they are not ADDABLE", """
                put(0, false, 16, 0) = 1
                put(1, false, 16, 2) = 1
                put(2, false, 16, -3) = 1
                put(3, false, 30, 0) = 1
                put(4, true, 30, -1) = 1
                sum(0, 0, false, 0) = 1
                sum(0, 1, false, 0) = -9
                sum(1, 0, true, 0) = -9
                sum(0, 2, true, 0) = -9
                sum(2, 0, false, 0) = -9
                sum(0, 3, false, 0) = -9
                sum(3, 0, true, 0) = -9
                sum(3, 3, true, 0) = -9
                parts(true, 0) = 0 1024 0
                sum(4, 0, true, 0) = 1
                parts(true, 0) = 1 2045 4503599627370495
                house(1) = 2
                house(2) = 7
                """);
        Run.test("promise 19: error is REFUSED if they are not ADDABLE", """
                put(0, false, 16, 0) = 1
                put(1, false, 16, 2) = 1
                put(2, false, 16, -3) = 1
                put(3, false, 30, 0) = 1
                put(4, true, 30, -1) = 1
                error(0, 1, false, 0) = -9
                error(1, 0, true, 0) = -9
                error(0, 2, true, 0) = -9
                error(2, 0, false, 0) = -9
                error(0, 3, false, 0) = -9
                error(3, 0, true, 0) = -9
                error(3, 3, true, 0) = -9
                parts(true, 0) = 0 0 0
                error(4, 0, true, 0) = 1
                parts(true, 0) = 1 1023 0
                house(1) = 1
                house(2) = 7
                """);
    }

    private static void testMiddle() {
        Run.test("promise 20: middle is rounded down, also below 0", """
                put(0, false, 0, 1) = 1
                put(1, false, 1, 0) = 1
                middle(0, 1, 0) = 1
                place(true, 0) = 1125899906842624
                put(0, false, 0, 0) = 1
                put(1, false, 0, 1) = 1
                middle(0, 1, 0) = 1                            // half
                parts(true, 0) = 0 0 0
                put(1, true, 0, 1) = 1
                middle(0, 1, 0) = 1                            // half below 0
                parts(true, 0) = 1 0 1
                middle(1, 0, 0) = 0
                put(0, true, 16, 0) = 1
                put(1, true, 16, 1) = 1
                middle(0, 1, 0) = 1
                parts(true, 0) = 1 1023 1
                put(0, false, 16, 0) = 1
                put(1, false, 16, 1) = 1
                middle(1, 0, 0) = 1
                parts(true, 0) = 0 1023 0
                """);
        Run.test("promise 20: middle of the greatest and the least, whose PLACES together pass 64 digits", """
                put(0, false, 31, 0) = 1
                put(1, false, 31, -1) = 1
                middle(0, 0, 0) = 1
                parts(true, 0) = 0 2046 4503599627370495
                middle(0, 1, 0) = 1
                parts(true, 0) = 0 2046 4503599627370494
                put(2, true, 31, 0) = 1
                put(3, true, 31, -1) = 1
                middle(2, 2, 0) = 1
                parts(true, 0) = 1 2046 4503599627370495
                middle(3, 3, 0) = 1
                parts(true, 0) = 1 2046 4503599627370494
                middle(2, 3, 0) = 1
                parts(true, 0) = 1 2046 4503599627370495
                middle(0, 2, 0) = 1
                parts(true, 0) = 0 0 0
                middle(1, 2, 0) = 1
                parts(true, 0) = 1 0 1
                """);
        Run.test("promise 20: middle is REFUSED if not both are NEAR", """
                put(0, false, 16, 1) = 1
                put(1, false, 16, 2) = 1
                put(2, true, 16, -3) = 1
                middle(0, 0, 0) = 1
                middle(0, 1, 0) = -9
                middle(1, 0, 0) = -9
                middle(2, 0, 0) = -9
                middle(0, 2, 0) = -9
                middle(1, 1, 0) = -9
                parts(true, 0) = 0 1023 1
                house(1) = 1
                house(2) = 5
                """);
    }

    private static void testLeast() {
        Run.test("promise 21: least is REFUSED if the NUMBER AT TOP has not the PROPERTY", """
                put(0, false, 29, -512) = 1
                least(6, 0, 0) = -9                            // the first of the SET above 2^971
                put(0, false, 31, 0) = 1
                least(6, 0, 0) = -9
                put(0, false, 28, 511) = 1
                least(6, 0, 0) = 64                            // the last of the SET below
                put(0, true, 31, 0) = 1
                least(6, 0, 0) = 63
                house(1) = 2
                house(2) = 2
                """);
        Run.test("promise 21: NUMBER AT TOP has the PROPERTIES 0, 1, 2, 4 and 5, held against TOP, too", """
                put(0, false, 31, 0) = 1
                least(0, 0, 0) = 64
                least(1, 0, 0) = 64
                least(2, 0, 0) = 64
                least(4, 0, 0) = 64
                least(5, 0, 0) = 64
                house(1) = 5
                house(2) = 0
                """);
        Run.test("promise 21: least is REFUSED if it is 3 and the ARGUMENT's EXPONENT is above 2045", """
                put(0, false, 30, -1) = 1
                least(3, 0, 0) = 64
                put(0, true, 30, -1) = 1
                least(3, 0, 0) = 64
                put(0, false, 30, 0) = 1
                least(3, 0, 0) = -9
                put(0, true, 30, 0) = 1
                least(3, 0, 0) = -9
                put(0, true, 31, 0) = 1
                least(3, 0, 0) = -9
                least(2, 0, 0) = 64                            // another one is not
                house(1) = 3
                house(2) = 3
                """);
        Run.test("promise 21: least tells its trials also if all stays, and is an ACT", """
                least(0, 0, 0) = 63
                least(0, 0, 0) = 63
                parts(true, 0) = 0 0 0
                house(0) = 0
                house(1) = 2
                """);
        Run.test("promise 21: least also of an ARGUMENT that is not NEAR", """
                put(0, false, 16, 511) = 1
                least(0, 0, 0) = 64
                parts(true, 0) = 0 1023 511
                put(0, true, 16, -512) = 1
                least(3, 0, 0) = 64
                parts(true, 0) = 0 969 1
                """);
    }

    private static void testRead() {
        Run.test("promise 22: readBinary of both ZEROS, by '-', and of the greatest and the least ones", """
                put(0, true, 0, 0) = 1
                readBinary(false, 0, 0) = 1
                parts(true, 0) = 1 0 0
                readBinary(true, 1, 0) = 1
                parts(true, 0) = 0 0 0
                put(0, true, 0, 1) = 1
                readBinary(false, 0, 0) = 1
                parts(true, 0) = 1 0 1
                put(0, false, 2, -1) = 1
                readBinary(false, 0, 0) = 1
                parts(true, 0) = 0 0 4503599627370495
                put(0, false, 2, 0) = 1
                readBinary(false, 0, 0) = 1
                parts(true, 0) = 0 1 0
                put(0, true, 31, 0) = 1
                readBinary(false, 0, 0) = 1
                parts(true, 0) = 1 2046 4503599627370495
                readBinary(true, 0, 0) = 0                     // into the cell that it is read from
                house(1) = 7
                """);
        Run.test("promises 22 and 23: of an ANSWER, not of the ARGUMENT in the cell of that number", """
                put(0, false, 16, 0) = 1
                up(0, 0) = 1
                readBinary(true, 0, 1) = 1
                parts(true, 1) = 0 1023 1
                readBinary(false, 0, 1) = 1
                parts(true, 1) = 0 1023 0
                readDecimal(true, 0, 1) = 1
                parts(true, 1) = 0 1023 1
                readDecimal(false, 0, 1) = 1
                parts(true, 1) = 0 1023 0
                """);
        Run.test("promise 23: readDecimal is REFUSED if it has no DECIMAL", """
                put(0, false, 31, 0) = 1
                readDecimal(false, 0, 0) = -9
                put(0, true, 0, 1) = 1
                readDecimal(false, 0, 0) = -9
                keep(0, 1) = 1
                readDecimal(true, 1, 0) = -9
                parts(true, 0) = 0 0 0
                house(1) = 1
                house(2) = 3
                """);
        Run.test("promise 23: readDecimal of both ZEROS, by '-', and without and with a point", """
                put(0, true, 0, 0) = 1
                readDecimal(false, 0, 0) = 1
                parts(true, 0) = 1 0 0
                readDecimal(true, 1, 0) = 1
                parts(true, 0) = 0 0 0
                put(0, true, 25, 1) = 1
                readDecimal(false, 0, 0) = 1
                parts(true, 0) = 1 1076 1
                put(0, false, 24, -1) = 1
                readDecimal(false, 0, 0) = 1
                parts(true, 0) = 0 1074 4503599627370495
                put(0, true, 8, -1) = 1
                readDecimal(false, 0, 0) = 1
                parts(true, 0) = 1 968 4503599627370495
                readDecimal(true, 0, 0) = 0                    // into the cell that it is read from
                house(1) = 6
                """);
    }
}

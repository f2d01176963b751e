/** Sections 1 and 2 of the document: what numbers there are, and which ones are arguments. */
final class NumberBoundaryTests {
    private static final String[] KNOTS = {
        "0 0", "0 2251799813685248", "1 0", "2 0", "52 2251799813685248", "53 0", "54 0",
        "512 1501199875790165", "969 0", "970 0", "971 0", "996 2702159776422298",
        "1019 2702159776422298", "1021 1501199875790165", "1022 0", "1022 3002399751580330", "1023 0",
        "1023 2251799813685248", "1024 0", "1024 2570638124657944", "1025 0", "1026 1125899906842624",
        "1049 2251799813685249", "1074 0", "1075 0", "1076 0", "1076 1501199875790165",
        "1096 123456789012345", "1500 2702159776422298", "2045 0", "2046 0", "2046 4503599627370495",
    };
    private static final long TOP = 9218868437227405311L;

    private NumberBoundaryTests() {
    }

    static void run() {
        testDigits();
        testSizes();
        testPlaces();
        testRounded();
        testRoundedToNone();
        testSet();
    }

    // ---- section 1

    private static void testDigits() {
        Run.test("section 1: EXPONENT is 0 to 2046, the 11 digits 2047 stand for no NUMBER", """
                putParts(0, false, 0, 0, 1) = 1
                parts(false, 0) = 0 0 1
                putDigits(0, 0, 1) = 0
                putParts(0, false, 2046, 0, 1) = 1
                parts(false, 0) = 0 2046 1
                putDigits(0, 0x7fe00000, 1) = 0
                putDigits(0, 0x7ff00000, 0) = -9
                putDigits(0, 0x7ff00000, 1) = -9
                putDigits(0, 0x7ff80000, 0) = -9
                putDigits(0, 0xfff00000, 0) = -9
                putDigits(0, 0xffffffff, -1) = -9
                parts(false, 0) = 0 2046 1
                """);
        Run.test("section 1: FRACTION has 52 digits, read from 0 on, the highest first", """
                putParts(0, true, 1, 0, 0) = 1
                parts(false, 0) = 1 1 0
                putParts(0, true, 0, 1048575, -1) = 1          // one less than the one before
                parts(false, 0) = 1 0 4503599627370495
                putParts(0, true, 0, 524288, 0) = 1
                parts(false, 0) = 1 0 2251799813685248
                putParts(0, true, 0, 524287, 0x80000000) = -9
                putParts(0, true, 0, 524287, 0xffffffff) = 1
                parts(false, 0) = 1 0 2251799813685247
                putParts(0, true, 0, 0, 511) = 1
                parts(false, 0) = 1 0 511
                """);
        Run.test("section 1: DIGITS are told 32 at a time, SIGN first", """
                put(0, true, 0, 0) = 1
                upper(false, 0) = -2147483648
                lower(false, 0) = 0
                put(0, false, 0, 1) = 1
                upper(false, 0) = 0
                lower(false, 0) = 1
                put(0, false, 31, 0) = 1
                upper(false, 0) = 2146435071
                lower(false, 0) = -1
                put(0, true, 31, 0) = 1
                upper(false, 0) = -1048577
                lower(false, 0) = -1
                put(0, false, 2, 0) = 1
                upper(false, 0) = 1048576
                lower(false, 0) = 0
                put(0, false, 2, -1) = 1
                upper(false, 0) = 1048575
                lower(false, 0) = -1
                """);
        Run.test("section 1: DIGITS are taken 32 at a time, the first of each 32 is its sign digit", """
                putDigits(0, 0x3fb99999, 0x9999999a) = 1       // the lower ones below 0 as an int
                parts(false, 0) = 0 1019 2702159776422298
                putDigits(0, 0x3feaaaaa, 0xaaaaaaaa) = 1
                parts(false, 0) = 0 1022 3002399751580330
                putDigits(0, 0x3fd55555, 0x55555555) = 1
                parts(false, 0) = 0 1021 1501199875790165
                putDigits(0, 0xbfd55555, 0x55555555) = 1       // the upper ones below 0 as an int
                parts(false, 0) = 1 1021 1501199875790165
                putDigits(0, 0x80000000, 0) = 1
                parts(false, 0) = 1 0 0
                """);
    }

    private static void testSizes() {
        Run.test("section 1: SIZE is FRACTION * 2^-1074, if EXPONENT is 0", """
                put(0, false, 0, 1) = 1
                binary(false, 0) = 1*2^-1074
                put(0, false, 0, 511) = 1
                binary(false, 0) = 511*2^-1074
                put(0, false, 2, -1) = 1
                parts(false, 0) = 0 0 4503599627370495
                binary(false, 0) = 4503599627370495*2^-1074
                """);
        Run.test("section 1: otherwise SIZE is (2^52 + FRACTION) * 2^(EXPONENT - 1075)", """
                put(0, false, 2, 0) = 1                        // EXPONENT 1: as far from 0 as 2^52 steps
                parts(false, 0) = 0 1 0
                binary(false, 0) = 1*2^-1022
                put(0, false, 2, 1) = 1
                binary(false, 0) = 4503599627370497*2^-1074
                put(0, false, 3, -1) = 1
                parts(false, 0) = 0 1 4503599627370495
                binary(false, 0) = 9007199254740991*2^-1074
                put(0, false, 3, 1) = 1                        // EXPONENT 2
                binary(false, 0) = 4503599627370497*2^-1073
                put(0, false, 30, 1) = 1                       // EXPONENT 2046
                binary(false, 0) = 4503599627370497*2^971
                put(0, false, 31, 0) = 1
                binary(false, 0) = 9007199254740991*2^971
                """);
        Run.test("section 1: with SIGN 1 the VALUE is below 0", """
                put(0, true, 0, 1) = 1
                put(1, false, 0, 0) = 0
                order(false, 0, false, 1) = -1
                put(2, true, 31, 0) = 1
                order(false, 2, false, 0) = -1                 // the greatest SIZE, the least VALUE
                order(false, 0, false, 2) = 1
                binary(false, 0) = -1*2^-1074
                binary(false, 2) = -9007199254740991*2^971
                """);
        Run.test("section 1: there are two ZEROS, both have the VALUE 0", """
                put(1, true, 0, 0) = 1
                walk(0, 1) = 0
                between(false, 0, false, 1) = 0
                binary(false, 0) = 0*2^0
                binary(false, 1) = -0*2^0
                put(2, true, 0, 1) = 1
                order(false, 2, false, 1) = -1
                put(2, false, 0, 1) = 1
                order(false, 2, false, 0) = 1
                sum(1, 2, false, 0) = 1
                isSame(true, 0, false, 2) = true
                """);
        Run.test("section 1: two are the SAME, if all their DIGITS are; so the two ZEROS are not", """
                put(1, true, 0, 0) = 1
                isSame(false, 0, false, 1) = false
                isSame(false, 1, false, 0) = false
                isSame(false, 0, false, 2) = true
                minus(2) = 1
                isSame(false, 1, false, 2) = true
                put(3, false, 31, 0) = 1
                put(4, false, 31, -1) = 1
                isSame(false, 3, false, 4) = false             // just the last digit is another one
                put(4, true, 31, 0) = 1
                isSame(false, 3, false, 4) = false             // just the first digit is
                put(4, false, 30, 0) = 1
                put(3, false, 29, 0) = 1
                isSame(false, 3, false, 4) = false             // just a digit of EXPONENT is
                put(4, false, 29, 0) = 1
                isSame(false, 3, false, 4) = true
                """);
    }

    private static void testPlaces() {
        Run.test("section 1: POINT is EXPONENT * 2^52 + FRACTION, also from one EXPONENT to the next", """
                put(0, false, 2, -1) = 1
                place(false, 0) = 4503599627370495
                put(0, false, 2, 0) = 1
                place(false, 0) = 4503599627370496
                put(0, false, 3, -1) = 1
                place(false, 0) = 9007199254740991
                put(0, false, 3, 0) = 1
                place(false, 0) = 9007199254740992
                put(0, false, 30, -1) = 1
                place(false, 0) = 9214364837600034815
                put(0, false, 30, 0) = 1
                place(false, 0) = 9214364837600034816
                """);
        Run.test("section 1: with SIGN 1 the PLACE is below 0, both ZEROS have the PLACE 0", """
                put(0, true, 0, 1) = 1
                place(false, 0) = -1
                put(0, true, 0, 0) = 1
                place(false, 0) = 0
                put(0, false, 0, 0) = 1
                place(false, 0) = 0
                put(0, false, 0, 1) = 1
                place(false, 0) = 1
                put(0, true, 2, 0) = 1
                place(false, 0) = -4503599627370496
                """);
        Run.test("section 1: TOP is the greatest POINT, 2047 * 2^52 - 1; there are PLACES -TOP to TOP", """
                put(0, false, 31, 0) = 1
                place(false, 0) = 9218868437227405311
                up(0, 0) = -9
                put(0, true, 31, 0) = 1
                place(false, 0) = -9218868437227405311
                down(0, 0) = -9
                putDigits(0, 0x7fefffff, 0xffffffff) = 1
                putDigits(0, 0x7ff00000, 0x00000000) = -9
                """);
        Run.test("section 1: AT 0 the ZERO with SIGN 0 is meant", """
                put(0, true, 0, 1) = 1
                put(1, false, 0, 1) = 1
                middle(0, 1, 0) = 0
                parts(true, 0) = 0 0 0
                put(2, true, 0, 0) = 1
                put(3, true, 0, 0) = 1
                keep(2, 0) = 1
                middle(2, 3, 0) = 1                            // of two ZEROS with SIGN 1
                parts(true, 0) = 0 0 0
                keep(2, 0) = 1
                down(1, 0) = 1
                parts(true, 0) = 0 0 0
                keep(2, 0) = 1
                least(0, 2, 0) = 63
                parts(true, 0) = 0 0 0
                """);
    }

    private static void testRounded() {
        Run.test("section 1: ROUNDED is the NUMBER that differs least", """
                put(0, false, 16, 0) = 1
                put(1, false, 9, -1) = 1
                sum(0, 1, false, 0) = 1                        // 1 and just less than half a step
                parts(true, 0) = 0 1023 0
                put(1, false, 9, 1) = 1
                sum(0, 1, false, 0) = 1                        // 1 and just more than half a step
                parts(true, 0) = 0 1023 1
                sum(0, 1, true, 0) = 1                         // 1 less just more than a step below
                parts(true, 0) = 0 1022 4503599627370495
                put(1, false, 8, -1) = 1
                sum(0, 1, true, 0) = 1                         // 1 less just less than half a step below
                parts(true, 0) = 0 1023 0
                put(1, false, 8, 1) = 1
                sum(0, 1, true, 0) = 1
                parts(true, 0) = 0 1022 4503599627370495
                put(0, false, 2, -1) = 1
                shift(0, -53, 1) = 0                           // just less than half of 2^-1074
                parts(true, 1) = 0 0 0
                put(0, false, 2, 1) = 1
                shift(0, -53, 1) = 1                           // just more than half of 2^-1074
                parts(true, 1) = 0 0 1
                """);
        Run.test("section 1: ROUNDED of two that differ alike is that with the even FRACTION", """
                put(0, false, 16, 0) = 1
                put(1, false, 9, 0) = 1
                sum(0, 1, false, 0) = 1                        // between FRACTIONS 0 and 1
                parts(true, 0) = 0 1023 0
                put(0, false, 16, 1) = 1
                sum(0, 1, false, 0) = 1                        // between FRACTIONS 1 and 2
                parts(true, 0) = 0 1023 2
                put(0, false, 16, 0) = 1
                put(1, false, 8, 0) = 1
                sum(0, 1, true, 0) = 1                         // between 2^52 - 1 and 0 of the next EXPONENT
                parts(true, 0) = 0 1023 0
                put(0, false, 16, -1) = 1
                sum(0, 1, false, 1) = 1                        // likewise from below
                parts(true, 1) = 0 1023 0
                sum(0, 1, true, 1) = 1                         // between 2^52 - 2 and 2^52 - 1
                parts(true, 1) = 0 1022 4503599627370494
                minus(0) = 1
                sum(0, 1, false, 1) = 1                        // with SIGN 1 likewise
                parts(true, 1) = 1 1022 4503599627370494
                put(0, true, 16, 1) = 1
                put(1, true, 9, 0) = 1
                sum(0, 1, false, 1) = 1
                parts(true, 1) = 1 1023 2
                put(0, true, 16, 0) = 1
                sum(0, 1, false, 1) = 1
                parts(true, 1) = 1 1023 0
                """);
        Run.test("section 1: ROUNDED by the even FRACTION also below EXPONENT 1", """
                put(0, false, 2, 1) = 1
                shift(0, -1, 0) = 1                            // 2^51 and a half
                parts(true, 0) = 0 0 2251799813685248
                put(0, false, 2, -1) = 1
                shift(0, -1, 1) = 1                            // half a one less than 2^51
                parts(true, 1) = 0 0 2251799813685248
                put(0, false, 3, -1) = 1
                shift(0, -1, 1) = 1                            // half a one less than 2^52: EXPONENT 1
                parts(true, 1) = 0 1 0
                put(0, false, 0, 1) = 1
                shift(0, -1, 1) = 1                            // half a one: ZERO has the even FRACTION
                parts(true, 1) = 0 0 0
                put(0, false, 2, 0) = 1
                shift(0, -53, 1) = 0                           // so has it here
                parts(true, 1) = 0 0 0
                put(0, true, 1, 1) = 1
                shift(0, -1, 1) = 1                            // 2^50 and a half, with SIGN 1
                parts(true, 1) = 1 0 1125899906842624
                put(0, true, 1, -1) = 1
                shift(0, -1, 2) = 1                            // half a one less than 2^50, with SIGN 1
                parts(true, 2) = 1 0 1125899906842624
                """);
        Run.test("section 1: ROUNDED has SIGN 1 just if the value is below 0, also if it is a ZERO", """
                put(0, true, 0, 1) = 1
                shift(0, -1, 0) = 1
                parts(true, 0) = 1 0 0
                put(0, false, 0, 1) = 1
                shift(0, -1, 0) = 1
                parts(true, 0) = 0 0 0
                put(0, true, 16, 0) = 1
                shift(0, -128, 0) = 1
                parts(true, 0) = 1 0 0
                put(0, true, 2, 0) = 1
                shift(0, -53, 1) = 1
                parts(true, 1) = 1 0 0
                shift(0, -52, 1) = 1
                parts(true, 1) = 1 0 1
                """);
    }

    private static void testRoundedToNone() {
        Run.test("section 1: ROUNDED to 2^1024, or beyond, there is NONE; just below there is one", """
                put(0, false, 29, 0) = 1
                shift(0, 1, 0) = 1                             // 2^1023
                parts(true, 0) = 0 2046 0
                shift(0, 2, 0) = -9                            // 2^1024
                shift(0, 3, 0) = -9                            // beyond
                put(0, false, 30, 0) = 1
                shift(0, 1, 0) = -9
                shift(0, 127, 0) = -9
                put(0, false, 30, -1) = 1
                shift(0, 1, 0) = 1                             // 2^1024 - 2^971
                parts(true, 0) = 0 2046 4503599627370495
                shift(0, 2, 0) = -9
                put(0, false, 31, 0) = 1
                shift(0, 0, 0) = 0
                shift(0, 1, 0) = -9
                isUnitStep(0) = true                           // 2^1024 - 2^971 + 2^971
                parts(true, 0) = 0 2046 4503599627370495
                """);
        Run.test("section 1: likewise -2^1024", """
                put(0, true, 29, 0) = 1
                shift(0, 1, 0) = 1
                parts(true, 0) = 1 2046 0
                shift(0, 2, 0) = -9
                put(0, true, 30, 0) = 1
                shift(0, 1, 0) = -9
                put(0, true, 30, -1) = 1
                shift(0, 1, 0) = 1
                parts(true, 0) = 1 2046 4503599627370495
                put(0, true, 31, -2) = 1
                shift(0, 1, 0) = -9
                shift(0, 127, 0) = -9
                isUnitStep(0) = true
                put(0, true, 31, 0) = 1
                isUnitStep(0) = true
                parts(true, 0) = 1 2046 4503599627370495
                """);
    }

    // ---- section 2

    private static void testSet() {
        Check.test("section 2: there are 32 KNOTS, 0 to 31, each told by EXPONENT:FRACTION", () -> {
            Run run = new Run();
            for (int knot = 0; knot < 32; knot++) {
                run.due("put(0, true, " + knot + ", 0)", "1");
                run.due("parts(false, 0)", "1 " + KNOTS[knot]);
            }
            run.due("put(0, true, -1, 0)", Check.ARGUMENT);
            run.due("put(0, true, 32, 0)", Check.ARGUMENT);
        });
        Check.test("section 2: a WINDOW has the OFFSETS -512 to 511, and no POINT lies in two WINDOWS", () -> {
            for (int knot = 0; knot < 32; knot++) {
                testWindow(knot, false);
            }
        });
        Check.test("section 2: the SET has all these with both SIGNS", () -> {
            for (int knot = 0; knot < 32; knot++) {
                testWindow(knot, true);
            }
        });
        Run.test("section 2: a POINT is at least 0: of the WINDOW of KNOT 0 there is one half", """
                put(0, false, 0, -1) = -9
                put(0, true, 0, -1) = -9
                put(0, false, 0, -512) = -9
                put(0, false, 0, 0) = 0
                window(false, 0) = 0
                offset(false, 0) = 0
                put(0, true, 0, 0) = 1
                window(false, 0) = 0
                offset(false, 0) = 0
                put(0, true, 0, 511) = 1
                window(false, 0) = 0
                offset(false, 0) = 511
                """);
        Run.test("section 2: a POINT is at most TOP: of the WINDOW of KNOT 31 there is one half", """
                put(0, false, 31, 1) = -9
                put(0, true, 31, 1) = -9
                put(0, false, 31, 511) = -9
                put(0, false, 31, 0) = 1
                window(false, 0) = 31
                offset(false, 0) = 0
                put(0, true, 31, -512) = 1
                window(false, 0) = 31
                offset(false, 0) = -512
                down(0, 0) = 1
                window(true, 0) = 31
                offset(true, 0) = -511
                up(0, 0) = 1
                window(true, 0) = -1
                offset(true, 0) = -9999
                """);
        Check.test("section 2: NEAR are those with an OFFSET of -2 to 1", () -> {
            for (int knot = 0; knot < 32; knot++) {
                for (int offset = -4; offset <= 3; offset++) {
                    testNear(knot, offset, knot % 2 == 0);
                }
            }
        });
    }

    private static long pointOf(int knot) {
        String[] parts = KNOTS[knot].split(" ");
        return (Long.parseLong(parts[0]) << 52) + Long.parseLong(parts[1]);
    }

    /** By the DIGITS: each POINT at and just outside of the edges of a WINDOW. */
    private static void testWindow(int knot, boolean isBelow) {
        Run run = new Run();
        run.due("put(0, " + isBelow + ", 22, 100)", "1");
        for (int offset : new int[] {-1024, -514, -513, -512, -511, -1, 0, 1, 510, 511, 512, 513, 1023}) {
            long point = pointOf(knot) + offset;
            if (point >= 0 && point <= TOP) {
                long digits = isBelow ? point | Long.MIN_VALUE : point;
                String call = "putDigits(0, " + (int) (digits >> 32) + ", " + (int) digits + ")";
                boolean isInside = offset >= -512 && offset <= 511;
                run.due(call, isInside ? "1" : "-9");
                if (isInside) {
                    run.due("window(false, 0)", "" + knot);
                    run.due("offset(false, 0)", "" + offset);
                    run.due("put(0, " + isBelow + ", " + knot + ", " + offset + ")", "0");
                }
            }
        }
        run.due("isSound()", "true");
    }

    private static void testNear(int knot, int offset, boolean isBelow) {
        Run run = new Run();
        if (!run.answer("put(0, " + isBelow + ", " + knot + ", " + offset + ")").equals("-9")) {
            boolean isNear = offset >= -2 && offset <= 1;
            run.due("isNear(0)", "" + isNear);
            run.answer("keep(0, 0)");
            run.due("towards(0, 0, 0)", isNear ? "0" : "-9");
            run.due("shift(0, 0, 0)", isNear ? "0" : "-9");
        }
    }
}

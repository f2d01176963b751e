/** Sections 6 and 7 of the document: properties and the search, and texts. */
final class SearchBoundaryTests {
    private SearchBoundaryTests() {
    }

    static void run() {
        testValuesAndUnits();
        testSums();
        testTwiceAndUp();
        testUnitsAgainstValues();
        testSearch();
        testBinary();
        testDecimal();
        testDecimalRaises();
    }

    // ---- section 6

    private static void testValuesAndUnits() {
        Run.test("section 6, PROPERTY 0: VALUE at least a's; of a ZERO with SIGN 1 that is AT 0", """
                put(0, true, 0, 0) = 1
                keep(0, 0) = 1
                least(0, 0, 0) = 63
                parts(true, 0) = 0 0 0
                put(0, true, 0, 1) = 1
                least(0, 0, 0) = 64
                parts(true, 0) = 1 0 1
                put(0, false, 0, 1) = 1
                least(0, 0, 0) = 64
                parts(true, 0) = 0 0 1
                put(0, false, 31, 0) = 1
                least(0, 0, 0) = 64
                parts(true, 0) = 0 2046 4503599627370495
                put(0, true, 31, 0) = 1
                least(0, 0, 0) = 63
                parts(true, 0) = 1 2046 4503599627370495
                """);
        Run.test("section 6, PROPERTY 1: VALUE at least 0, and UNIT at least a's: AT 0 for EXPONENT 0 and 1", """
                put(7, true, 0, 0) = 1
                keep(7, 0) = 1
                least(1, 0, 0) = 63
                parts(true, 0) = 0 0 0
                put(0, true, 2, -1) = 1
                keep(7, 0) = 1
                least(1, 0, 0) = 63
                parts(true, 0) = 0 0 0
                put(0, false, 3, -1) = 1
                keep(7, 0) = 1
                least(1, 0, 0) = 63
                parts(true, 0) = 0 0 0
                put(0, false, 3, 0) = 1
                least(1, 0, 0) = 64
                parts(true, 0) = 0 2 0
                put(0, true, 3, 511) = 1
                least(1, 0, 1) = 64
                parts(true, 1) = 0 2 0
                put(0, false, 31, 0) = 1
                least(1, 0, 0) = 64
                parts(true, 0) = 0 2046 0
                put(0, true, 31, 0) = 1
                least(1, 0, 1) = 64
                parts(true, 1) = 0 2046 0
                put(0, true, 16, 0) = 1
                least(1, 0, 1) = 64
                parts(true, 1) = 0 1023 0
                put(0, true, 16, -1) = 1
                least(1, 0, 1) = 64
                parts(true, 1) = 0 1022 0
                """);
        Run.test("section 6, PROPERTY 2: VALUE at least 0, and POWER at least a's: AT 0 for EXPONENT 0", """
                put(7, true, 0, 0) = 1
                keep(7, 0) = 1
                least(2, 0, 0) = 63
                parts(true, 0) = 0 0 0
                put(0, true, 2, -1) = 1
                keep(7, 0) = 1
                least(2, 0, 0) = 63
                parts(true, 0) = 0 0 0
                put(0, true, 2, 0) = 1
                least(2, 0, 0) = 64
                parts(true, 0) = 0 1 0
                put(0, false, 3, -1) = 1
                least(2, 0, 1) = 64
                parts(true, 1) = 0 1 0
                put(0, false, 3, 0) = 1
                least(2, 0, 1) = 64
                parts(true, 1) = 0 2 0
                put(0, true, 31, 0) = 1
                least(2, 0, 1) = 64
                parts(true, 1) = 0 2046 0
                """);
    }

    private static void testSums() {
        Run.test("section 6, PROPERTY 3: a and n, added, ROUNDED, are greater than a", """
                put(0, false, 16, 0) = 1
                least(3, 0, 0) = 64                            // half a step leaves 1
                parts(true, 0) = 0 970 1
                put(0, false, 16, 1) = 1
                least(3, 0, 0) = 64                            // half a step goes to the even FRACTION
                parts(true, 0) = 0 970 0
                put(0, false, 16, -1) = 1
                least(3, 0, 0) = 64
                parts(true, 0) = 0 969 0
                put(0, true, 16, 0) = 1
                least(3, 0, 0) = 64                            // above -1 a step is half as wide
                parts(true, 0) = 0 969 1
                put(0, true, 16, 1) = 1
                least(3, 0, 0) = 64
                parts(true, 0) = 0 970 0
                put(0, true, 16, 2) = 1
                least(3, 0, 0) = 64
                parts(true, 0) = 0 970 1
                put(0, true, 2, 0) = 1
                least(3, 0, 0) = 64
                parts(true, 0) = 0 0 1
                put(0, false, 3, 0) = 1
                least(3, 0, 0) = 64                            // half a step is the least NUMBER
                parts(true, 0) = 0 0 2
                put(0, false, 3, 1) = 1
                least(3, 0, 0) = 64
                parts(true, 0) = 0 0 1
                put(0, true, 3, 0) = 1
                least(3, 0, 0) = 64
                parts(true, 0) = 0 0 1
                """);
        Run.test("section 6, PROPERTY 3: 0 stays 0, so it is not greater than a ZERO", """
                least(3, 0, 0) = 64
                parts(true, 0) = 0 0 1
                put(1, true, 0, 0) = 1
                least(3, 1, 1) = 64
                parts(true, 1) = 0 0 1
                put(2, true, 0, 1) = 1
                least(3, 2, 2) = 64                            // -2^-1074 and 2^-1074 are 0, and greater
                parts(true, 2) = 0 0 1
                """);
        Run.test("section 6, PROPERTY 3: they are greater where there is NONE because they are too great", """
                put(0, false, 30, -1) = 1
                least(3, 0, 0) = 64                            // TOP has it, though there is NONE
                parts(true, 0) = 0 1992 0
                put(0, false, 29, 511) = 1
                least(3, 0, 0) = 64
                parts(true, 0) = 0 1992 0
                put(0, false, 29, 0) = 1
                least(3, 0, 0) = 64
                parts(true, 0) = 0 1992 1
                put(0, true, 29, 0) = 1
                least(3, 0, 0) = 64
                parts(true, 0) = 0 1991 1
                put(0, true, 30, -1) = 1
                least(3, 0, 0) = 64
                parts(true, 0) = 0 1992 0
                """);
    }

    private static void testTwiceAndUp() {
        Run.test("section 6, PROPERTY 4: twice n's VALUE is at least a's", """
                put(0, false, 0, 1) = 1
                least(4, 0, 0) = 64
                parts(true, 0) = 0 0 1
                put(0, false, 0, 2) = 1
                least(4, 0, 1) = 64
                parts(true, 1) = 0 0 1
                put(0, false, 0, 3) = 1
                least(4, 0, 1) = 64
                parts(true, 1) = 0 0 2
                put(0, false, 2, 0) = 1
                least(4, 0, 1) = 64
                parts(true, 1) = 0 0 2251799813685248
                put(0, false, 2, 1) = 1
                least(4, 0, 1) = 64
                parts(true, 1) = 0 0 2251799813685249
                put(0, false, 3, -1) = 1
                least(4, 0, 1) = 64
                parts(true, 1) = 0 1 0
                put(0, false, 3, 0) = 1
                least(4, 0, 2) = 64
                parts(true, 2) = 0 1 0
                put(0, false, 3, 1) = 1
                least(4, 0, 2) = 64
                parts(true, 2) = 0 1 1
                put(0, false, 31, 0) = 1
                least(4, 0, 2) = 64
                parts(true, 2) = 0 2045 4503599627370495
                """);
        Run.test("section 6, PROPERTY 4: likewise below 0 and of both ZEROS", """
                put(7, true, 0, 0) = 1
                keep(7, 0) = 1
                least(4, 7, 0) = 63
                parts(true, 0) = 0 0 0
                keep(7, 0) = 1
                least(4, 6, 0) = 63
                parts(true, 0) = 0 0 0
                keep(7, 0) = 1
                put(0, true, 0, 1) = 1
                least(4, 0, 0) = 63                            // twice the one below would be too little
                parts(true, 0) = 0 0 0
                put(0, true, 0, 2) = 1
                least(4, 0, 0) = 64
                parts(true, 0) = 1 0 1
                put(0, true, 0, 3) = 1
                least(4, 0, 1) = 64
                parts(true, 1) = 1 0 1
                put(0, true, 3, -1) = 1
                least(4, 0, 1) = 64
                parts(true, 1) = 1 0 4503599627370495
                put(0, true, 31, 0) = 1
                least(4, 0, 1) = 64
                parts(true, 1) = 1 2045 4503599627370495
                """);
        Run.test("section 6, PROPERTY 5: n has no UP, or its UP's VALUE is at least a's", """
                put(0, false, 31, 0) = 1
                least(5, 0, 0) = 64
                parts(true, 0) = 0 2046 4503599627370494
                put(0, true, 31, 0) = 1
                least(5, 0, 0) = 63                            // -TOP: all have it
                parts(true, 0) = 1 2046 4503599627370495
                put(0, true, 31, -1) = 1
                least(5, 0, 1) = 63
                parts(true, 1) = 1 2046 4503599627370495
                put(0, true, 31, -2) = 1
                least(5, 0, 1) = 64
                parts(true, 1) = 1 2046 4503599627370494
                least(5, 2, 1) = 64                            // UP of PLACE -1 is a ZERO: VALUE 0
                parts(true, 1) = 1 0 1
                put(3, true, 0, 0) = 1
                least(5, 3, 2) = 64
                parts(true, 2) = 1 0 1
                put(4, false, 0, 1) = 1
                least(5, 4, 2) = 63
                parts(true, 2) = 0 0 0
                put(4, true, 0, 1) = 1
                least(5, 4, 2) = 64
                parts(true, 2) = 1 0 2
                """);
    }

    private static void testUnitsAgainstValues() {
        Run.test("section 6, PROPERTY 6: VALUE at least 0, and UNIT at least a's VALUE", """
                put(7, true, 0, 0) = 1
                keep(7, 0) = 1
                least(6, 7, 0) = 63
                parts(true, 0) = 0 0 0
                keep(7, 0) = 1
                put(0, true, 31, 0) = 1
                least(6, 0, 0) = 63                            // a is below 0: any UNIT will do
                parts(true, 0) = 0 0 0
                keep(7, 0) = 1
                put(0, false, 0, 1) = 1
                least(6, 0, 0) = 63                            // the UNIT of 0 is just a
                parts(true, 0) = 0 0 0
                put(0, false, 0, 2) = 1
                least(6, 0, 0) = 64
                parts(true, 0) = 0 2 0
                put(0, false, 0, 3) = 1
                least(6, 0, 0) = 64
                parts(true, 0) = 0 3 0
                put(0, false, 16, 0) = 1
                least(6, 0, 0) = 64
                parts(true, 0) = 0 1075 0
                put(0, false, 16, 1) = 1
                least(6, 0, 0) = 64
                parts(true, 0) = 0 1076 0
                put(0, false, 28, 511) = 1
                least(6, 0, 0) = 64
                parts(true, 0) = 0 1553 0
                put(0, false, 29, -512) = 1
                least(6, 0, 0) = -9                            // the UNIT of TOP is less
                parts(true, 0) = 0 1553 0
                """);
    }

    private static void testSearch() {
        Run.test("section 6: the search starts with low -TOP - 1 and high TOP: 64 trials, or 63", """
                put(0, false, 31, 0) = 1
                least(0, 0, 0) = 64                            // TOP, which is never tried
                put(0, true, 31, 0) = 1
                least(0, 0, 0) = 63                            // -TOP, all have it
                put(0, true, 31, -1) = 1
                least(0, 0, 0) = 64
                put(0, true, 1, -129) = 1
                least(0, 0, 0) = 64
                put(0, true, 1, -128) = 1
                least(0, 0, 0) = 63
                put(0, true, 1, -127) = 1
                least(0, 0, 0) = 64
                put(0, false, 1, -128) = 1
                least(0, 0, 0) = 63
                put(0, false, 1, -127) = 1
                least(0, 0, 0) = 64
                put(0, true, 30, 255) = 1
                least(0, 0, 0) = 64
                put(0, true, 30, 256) = 1
                least(0, 0, 0) = 63
                put(0, false, 30, 256) = 1
                least(0, 0, 0) = 63
                """);
        Run.test("section 6: the middle is rounded down, also below 0", """
                put(0, false, 0, 0) = 0
                least(0, 0, 0) = 63
                put(0, false, 0, 1) = 1                        // rounded up from -1/2, 63 would do
                least(0, 0, 0) = 64
                put(0, true, 0, 1) = 1
                least(0, 0, 0) = 64
                put(0, true, 31, 0) = 1                        // rounded up below 0, it would take 64
                least(0, 0, 0) = 63
                put(0, true, 17, -1) = 1
                least(0, 0, 0) = 64
                put(0, true, 17, 0) = 1
                least(0, 0, 0) = 63
                put(0, false, 17, 0) = 1
                least(0, 0, 0) = 63
                put(0, false, 17, -1) = 1
                least(0, 0, 0) = 64
                """);
        Run.test("section 6: a trial is of the NUMBER AT the middle, AT 0 with SIGN 0", """
                put(0, true, 0, 1) = 1
                keep(0, 0) = 1
                least(1, 0, 0) = 63
                parts(true, 0) = 0 0 0
                keep(0, 0) = 1
                least(6, 0, 0) = 63
                parts(true, 0) = 0 0 0
                """);
    }

    // ---- section 7

    private static void testBinary() {
        Run.test("section 7: SIZE is WHOLE * 2^RAISE with an odd WHOLE", """
                put(0, false, 21, 0) = 1
                binary(false, 0) = 5*2^1
                put(0, false, 24, 0) = 1
                binary(false, 0) = 1*2^52
                put(0, false, 24, 1) = 1
                binary(false, 0) = 4503599627370497*2^0
                put(0, false, 24, 2) = 1
                binary(false, 0) = 2251799813685249*2^1
                put(0, false, 25, -1) = 1
                binary(false, 0) = 9007199254740991*2^0
                put(0, false, 25, 1) = 1
                binary(false, 0) = 4503599627370497*2^1
                put(0, false, 1, 0) = 1
                binary(false, 0) = 1*2^-1023
                put(0, false, 1, 1) = 1
                binary(false, 0) = 2251799813685249*2^-1074
                put(0, false, 0, 384) = 1
                binary(false, 0) = 3*2^-1067
                """);
        Run.test("section 7: of a ZERO both WHOLE and RAISE are 0", """
                binary(false, 0) = 0*2^0
                decimal(false, 0) = 0
                decimals(false, 0) = 0
                binary(true, 0) = 0*2^0
                decimal(true, 0) = 0
                decimals(true, 0) = 0
                """);
        Run.test("section 7: BINARY has a '-' if RAISE is below 0, and one ahead of all with SIGN 1", """
                put(0, true, 16, 0) = 1
                binary(false, 0) = -1*2^0
                put(0, true, 18, 0) = 1
                binary(false, 0) = -1*2^1
                put(0, true, 14, 0) = 1
                binary(false, 0) = -1*2^-1
                put(0, false, 14, 0) = 1
                binary(false, 0) = 1*2^-1
                put(0, true, 0, 1) = 1
                binary(false, 0) = -1*2^-1074
                put(0, true, 0, 0) = 1
                binary(false, 0) = -0*2^0
                keep(0, 0) = 1
                binary(true, 0) = -0*2^0
                """);
        Run.test("section 7: the example, -3/16", """
                put(0, true, 17, 0) = 1
                shift(0, -3, 0) = 1
                parts(true, 0) = 1 1020 2251799813685248
                binary(true, 0) = -3*2^-4
                decimal(true, 0) = -0.1875
                decimals(true, 0) = 4
                place(true, 0) = -4595923419731591168
                """);
    }

    private static void testDecimal() {
        Run.test("section 7: the whole part of a DECIMAL is 0 if it is 0", """
                put(0, false, 14, 0) = 1
                decimal(false, 0) = 0.5
                put(0, false, 16, -1) = 1
                decimal(false, 0) = 0.99999999999999988897769753748434595763683319091796875
                put(0, false, 16, 0) = 1
                decimal(false, 0) = 1
                put(0, false, 16, 1) = 1
                decimal(false, 0) = 1.0000000000000002220446049250313080847263336181640625
                put(0, true, 14, 0) = 1
                decimal(false, 0) = -0.5
                """);
        Run.test("section 7: a DECIMAL has a point only if RAISE is below 0", """
                put(0, false, 24, -1) = 1
                decimal(false, 0) = 4503599627370495.5
                decimals(false, 0) = 1
                put(0, false, 24, 1) = 1
                decimal(false, 0) = 4503599627370497
                decimals(false, 0) = 0
                put(0, false, 25, 1) = 1
                decimal(false, 0) = 9007199254740994
                decimals(false, 0) = 0
                put(0, true, 21, 0) = 1
                decimal(false, 0) = -10
                decimals(false, 0) = 0
                put(0, true, 17, 0) = 1
                decimal(false, 0) = -1.5
                decimals(false, 0) = 1
                """);
        Run.test("section 7: behind the point stand all -RAISE digits, zeros ahead too, the last one is 5", """
                put(0, false, 16, 0) = 1
                shift(0, -4, 0) = 1
                decimal(true, 0) = 0.0625
                shift(0, -10, 0) = 1
                decimal(true, 0) = 0.0009765625
                decimals(true, 0) = 10
                shift(0, -30, 0) = 1
                decimal(true, 0) = 0.000000000931322574615478515625
                decimals(true, 0) = 30
                put(0, false, 24, -1) = 1
                shift(0, -9, 0) = 1
                decimal(true, 0) = 8796093022207.9990234375
                decimals(true, 0) = 10
                put(0, false, 10, 0) = 1
                decimal(false, 0) = 0.0000000000000002220446049250313080847263336181640625
                decimals(false, 0) = 52
                """);
        Run.test("section 7: a DECIMAL has '-' ahead with SIGN 1, also of a ZERO", """
                put(0, true, 0, 0) = 1
                decimal(false, 0) = -0
                decimals(false, 0) = 0
                put(0, false, 0, 0) = 1
                decimal(false, 0) = 0
                put(0, true, 16, 0) = 1
                decimal(false, 0) = -1
                put(0, true, 12, 0) = 1
                decimal(false, 0) = -0.1000000000000000055511151231257827021181583404541015625
                """);
    }

    private static void testDecimalRaises() {
        Run.test("section 7: there is a DECIMAL, if RAISE is 200; of 201 there is none", """
                put(0, false, 22, -2) = 1
                put(1, false, 28, 1) = 1
                middle(0, 1, 0) = 1
                binary(true, 0) = 4728779608739021*2^200
                decimal(true, 0) = 7598855856198875646059454742993199061263261211915182519530002707077866192896
                decimals(true, 0) = 0
                readDecimal(true, 0, 1) = 1
                isSame(true, 0, true, 1) = true
                put(0, false, 22, 0) = 1
                middle(0, 1, 0) = 1
                binary(true, 0) = 2364389804369511*2^201
                decimal(true, 0) =
                decimals(true, 0) = -1
                readDecimal(true, 0, 1) = -9
                isSame(true, 0, true, 1) = false
                """);
        Check.test("section 7: there is a DECIMAL, if RAISE is -200; of -201 there is none", () -> {
            String digits = "5605193857299267661393390547045493810714642389493639028003056263442451"
                    + "0206317809269766693499101422097305176874286383043033410444877517875283"
                    + "9565277099609375";
            Run run = new Run();
            run.due("""
                    put(0, true, 6, -1) = 1
                    shift(0, 86, 0) = 1
                    binary(true, 0) = -9007199254740991*2^-200
                    decimals(true, 0) = 200
                    """);
            run.due("decimal(true, 0)", "-0." + "0".repeat(44) + digits);
            run.due("""
                    readDecimal(true, 0, 1) = 1
                    isSame(true, 0, true, 1) = true
                    put(0, true, 5, -1) = 1
                    shift(0, 86, 0) = 1
                    binary(true, 0) = -9007199254740991*2^-201
                    decimal(true, 0) =
                    decimals(true, 0) = -1
                    readDecimal(true, 0, 1) = -9
                    isSame(true, 0, true, 1) = false
                    """);
        });
        Run.test("section 7: it is RAISE that counts, of the odd WHOLE, not EXPONENT", """
                put(0, false, 30, 0) = 1
                shift(0, -87, 0) = 1
                binary(true, 0) = 1*2^200
                decimal(true, 0) = 1606938044258990275541962092341162602522202993782792835301376
                put(0, false, 0, 256) = 1
                decimals(false, 0) = -1
                put(0, false, 2, 0) = 1
                shift(0, 86, 0) = 1
                binary(true, 0) = 1*2^-200
                decimals(true, 0) = 200
                put(0, false, 1, 0) = 1
                shift(0, 86, 0) = 1
                binary(true, 0) = 1*2^-201
                decimals(true, 0) = -1
                """);
    }
}

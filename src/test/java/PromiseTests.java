/** Each promise by itself: ordinary inputs, the edges that the document names, wrong inputs. */
final class PromiseTests {
    private static final String INDEX = Check.INDEX;
    private static final String ARGUMENT = Check.ARGUMENT;
    private static final int REFUSED = -9;
    private static final int[] NO_CELLS = {-1, 8, Integer.MIN_VALUE, Integer.MAX_VALUE};
    /** Knots that are told by their numbers below. */
    private static final int ZERO = 0;
    private static final int LEAST_NORMAL = 2;
    private static final int SECOND_NORMAL = 3;
    private static final int TENTH = 12;
    private static final int ONE = 16;
    private static final int TWO = 18;
    private static final int FOUR = 20;
    private static final int TEN = 21;
    private static final int GREAT = 30;
    private static final int GREATEST = 31;

    private PromiseTests() {
    }

    static void run() {
        Check.test("promise 1: a new object", PromiseTests::testNew);
        Check.test("promise 2: put", PromiseTests::testPut);
        Check.test("promise 3: putDigits", PromiseTests::testPutDigits);
        Check.test("promise 4: putParts", PromiseTests::testPutParts);
        Check.test("promise 5: copy", PromiseTests::testCopy);
        Check.test("promise 6: swap", PromiseTests::testSwap);
        Check.test("promise 7: minus", PromiseTests::testMinus);
        Check.test("promise 8: take", PromiseTests::testTake);
        Check.test("promise 9: keep", PromiseTests::testKeep);
        Check.test("promise 10: up", PromiseTests::testUp);
        Check.test("promise 11: down", PromiseTests::testDown);
        Check.test("promise 12: steps", PromiseTests::testSteps);
        Check.test("promise 13: towards", PromiseTests::testTowards);
        Check.test("promise 14: shift", PromiseTests::testShift);
        Check.test("promises 15 and 16: unit, unitByPower", PromiseTests::testUnits);
        Check.test("promise 17: gap", PromiseTests::testGap);
        Check.test("promise 18: sum", PromiseTests::testSum);
        Check.test("promise 19: error", PromiseTests::testError);
        Check.test("promise 20: middle", PromiseTests::testMiddle);
        Check.test("promise 21: least", PromiseTests::testLeast);
        Check.test("promise 21: least, each property", PromiseTests::testProperties);
        Check.test("promise 22: readBinary", PromiseTests::testReadBinary);
        Check.test("promise 23: readDecimal", PromiseTests::testReadDecimal);
        Check.test("promises 24 and 25: power, powerByUnit", PromiseTests::testPowers);
        Check.test("promise 26: isEdge", PromiseTests::testIsEdge);
        Check.test("promise 27: isUnitStep", PromiseTests::testIsUnitStep);
        Check.test("promise 28: isNear", PromiseTests::testIsNear);
        Check.test("promise 29: isWithin", PromiseTests::testIsWithin);
        Check.test("promises 30 and 31: exact, holds", PromiseTests::testExact);
        Check.test("promise 32: walk", PromiseTests::testWalk);
        Check.test("promises 33 and 34: window, offset", PromiseTests::testWindow);
        Check.test("promises 35 and 36: upper, lower", PromiseTests::testDigits);
        Check.test("promise 37: parts", PromiseTests::testParts);
        Check.test("promise 38: place", PromiseTests::testPlace);
        Check.test("promise 39: between", PromiseTests::testBetween);
        Check.test("promise 40: binary", PromiseTests::testBinary);
        Check.test("promise 41: decimal", PromiseTests::testDecimal);
        Check.test("promise 42: decimals", PromiseTests::testDecimals);
        Check.test("promise 43: isSame", PromiseTests::testIsSame);
        Check.test("promise 44: order", PromiseTests::testOrder);
        Check.test("promise 45: house", PromiseTests::testHouse);
        Check.test("promise 46: knock", PromiseTests::testKnock);
        Check.test("promise 47: isSound", PromiseTests::testIsSound);
        Check.test("promise 48: digest", PromiseTests::testDigest);
        Check.test("no such cell: before all else, and nothing changes", PromiseTests::testNoCells);
        Check.test("out of bounds: nothing changes", PromiseTests::testOutOfBounds);
    }

    // ---- what many tests ask

    private static void duePlace(Nearplaces x, String due, boolean isAnswer, int cell) {
        Check.due("place of cell " + cell, due, () -> x.place(isAnswer, cell));
    }

    private static void dueAnswer(Nearplaces x, String due, int cell) {
        Check.due("parts of answer " + cell, due, () -> x.parts(true, cell));
    }

    private static void dueArgument(Nearplaces x, String due, int cell) {
        Check.due("parts of argument " + cell, due, () -> x.parts(false, cell));
    }

    private static void dueHouse(Nearplaces x, int arguments, int answers, int refusals, int knocks) {
        Check.due("house(0)", arguments, () -> x.house(0));
        Check.due("house(1)", answers, () -> x.house(1));
        Check.due("house(2)", refusals, () -> x.house(2));
        Check.due("house(3)", knocks, () -> x.house(3));
    }

    private static Nearplaces with(boolean isBelow, int knot, int offset) {
        Nearplaces x = new Nearplaces();
        x.put(0, isBelow, knot, offset);
        return x;
    }

    private static Nearplaces withTwo(int knot, int offset, int otherKnot, int otherOffset) {
        Nearplaces x = with(false, knot, offset);
        x.put(1, false, otherKnot, otherOffset);
        return x;
    }

    // ---- the arguments

    private static void testNew() {
        Nearplaces x = new Nearplaces();
        for (int cell = 0; cell < 8; cell++) {
            dueArgument(x, "0 0 0", cell);
            dueAnswer(x, "0 0 0", cell);
        }
        dueHouse(x, 0, 0, 0, 0);
        Check.due("isSound()", true, x::isSound);
    }

    private static void testPut() {
        Nearplaces x = new Nearplaces();
        Check.due("put 1", 1, () -> x.put(0, false, ONE, 0));
        dueArgument(x, "0 1023 0", 0);
        Check.due("put 1 again", 0, () -> x.put(0, false, ONE, 0));
        Check.due("put -1", 1, () -> x.put(0, true, ONE, 0));
        dueArgument(x, "1 1023 0", 0);
        Check.due("the greatest offset", 1, () -> x.put(7, false, TWO, 511));
        dueArgument(x, "0 1024 511", 7);
        Check.due("the least offset", 1, () -> x.put(7, false, TWO, -512));
        dueArgument(x, "0 1023 4503599627369984", 7);
        Check.due("ZERO with SIGN 1", 1, () -> x.put(1, true, ZERO, 0));
        dueArgument(x, "1 0 0", 1);
        Check.due("ZERO with SIGN 0 instead", 1, () -> x.put(1, false, ZERO, 0));
        Check.due("below POINT 0", REFUSED, () -> x.put(1, true, ZERO, -1));
        Check.due("below POINT 0, far", REFUSED, () -> x.put(1, true, ZERO, -512));
        Check.due("above TOP", REFUSED, () -> x.put(1, false, GREATEST, 1));
        Check.due("above TOP, far", REFUSED, () -> x.put(1, false, GREATEST, 511));
        dueArgument(x, "0 0 0", 1);
        Check.due("TOP", 1, () -> x.put(1, false, GREATEST, 0));
        dueArgument(x, "0 2046 4503599627370495", 1);
        dueHouse(x, 8, 0, 4, 0);
        for (int knot : new int[] {-1, 32, Integer.MIN_VALUE, Integer.MAX_VALUE}) {
            Check.due("knot " + knot, ARGUMENT, () -> x.put(0, false, knot, 0));
        }
        for (int offset : new int[] {-513, 512, Integer.MIN_VALUE, Integer.MAX_VALUE}) {
            Check.due("offset " + offset, ARGUMENT, () -> x.put(0, false, ONE, offset));
        }
    }

    private static void testPutDigits() {
        Nearplaces x = new Nearplaces();
        Check.due("1 and 511 steps", 1, () -> x.putDigits(0, 0x3ff00000, 511));
        Check.due("again", 0, () -> x.putDigits(0, 0x3ff00000, 511));
        dueArgument(x, "0 1023 511", 0);
        Check.due("1 and 512 steps", REFUSED, () -> x.putDigits(0, 0x3ff00000, 512));
        Check.due("-1 less 512 steps", 1, () -> x.putDigits(0, 0xbfefffff, 0xfffffe00));
        dueArgument(x, "1 1022 4503599627369984", 0);
        Check.due("-1 less 513 steps", REFUSED, () -> x.putDigits(0, 0xbfefffff, 0xfffffdff));
        Check.due("EXPONENT 2047", REFUSED, () -> x.putDigits(0, 0x7ff00000, 0));
        Check.due("EXPONENT 2047, below", REFUSED, () -> x.putDigits(0, 0xfff00000, 1));
        Check.due("all DIGITS 1", REFUSED, () -> x.putDigits(0, -1, -1));
        dueArgument(x, "1 1022 4503599627369984", 0);
        Check.due("TOP", 1, () -> x.putDigits(0, 0x7fefffff, -1));
        dueArgument(x, "0 2046 4503599627370495", 0);
        Check.due("ZERO with SIGN 1", 1, () -> x.putDigits(0, 0x80000000, 0));
        dueArgument(x, "1 0 0", 0);
        dueHouse(x, 5, 0, 5, 0);
    }

    private static void testPutParts() {
        Nearplaces x = new Nearplaces();
        Check.due("0.1", 1, () -> x.putParts(0, false, 1019, 0x99999, 0x9999999a));
        Check.due("0.1 again", 0, () -> x.putParts(0, false, 1019, 0x99999, 0x9999999a));
        Check.due("its WINDOW", TENTH, () -> x.window(false, 0));
        Check.due("its OFFSET", 0, () -> x.offset(false, 0));
        Check.due("-0.1", 1, () -> x.putParts(0, true, 1019, 0x99999, 0x9999999a));
        dueArgument(x, "1 1019 2702159776422298", 0);
        Check.due("none of the SET", REFUSED, () -> x.putParts(0, true, 1019, 0x99999, 0));
        Check.due("TOP", 1, () -> x.putParts(0, false, 2046, 1048575, -1));
        dueArgument(x, "0 2046 4503599627370495", 0);
        Check.due("the least parts", 1, () -> x.putParts(0, false, 0, 0, 0));
        dueHouse(x, 5, 0, 1, 0);
        for (int exponent : new int[] {-1, 2047, Integer.MAX_VALUE, Integer.MIN_VALUE}) {
            Check.due("exponent " + exponent, ARGUMENT, () -> x.putParts(0, false, exponent, 0, 0));
        }
        for (int high : new int[] {-1, 1048576, Integer.MAX_VALUE, Integer.MIN_VALUE}) {
            Check.due("high " + high, ARGUMENT, () -> x.putParts(0, false, 0, high, 0));
        }
    }

    private static void testCopy() {
        Nearplaces x = with(true, TEN, 3);
        Check.due("copy", 1, () -> x.copy(0, 7));
        Check.due("copy again", 0, () -> x.copy(0, 7));
        Check.due("copy into itself", 0, () -> x.copy(7, 7));
        dueArgument(x, "1 1026 1125899906842627", 0);
        dueArgument(x, "1 1026 1125899906842627", 7);
        dueHouse(x, 4, 0, 0, 0);
        x.put(1, true, ZERO, 0);
        Check.due("the other ZERO", 1, () -> x.copy(1, 2));
        dueArgument(x, "1 0 0", 2);
    }

    private static void testSwap() {
        Nearplaces x = with(true, TEN, 3);
        Check.due("swap", 1, () -> x.swap(0, 7));
        dueArgument(x, "0 0 0", 0);
        dueArgument(x, "1 1026 1125899906842627", 7);
        Check.due("swap with itself", 0, () -> x.swap(7, 7));
        dueArgument(x, "1 1026 1125899906842627", 7);
        Check.due("swap the SAME", 0, () -> x.swap(0, 1));
        x.put(1, true, ZERO, 0);
        Check.due("swap both ZEROS", 1, () -> x.swap(0, 1));
        dueArgument(x, "1 0 0", 0);
        dueArgument(x, "0 0 0", 1);
        dueHouse(x, 6, 0, 0, 0);
    }

    private static void testMinus() {
        Nearplaces x = with(false, ONE, 1);
        Check.due("minus", 1, () -> x.minus(0));
        dueArgument(x, "1 1023 1", 0);
        Check.due("minus again", 0, () -> x.minus(0));
        dueArgument(x, "0 1023 1", 0);
        Check.due("minus of a ZERO", 1, () -> x.minus(5));
        dueArgument(x, "1 0 0", 5);
        Check.due("back", 0, () -> x.minus(5));
        dueHouse(x, 5, 0, 0, 0);
    }

    private static void testTake() {
        Nearplaces x = with(true, ONE, 1);
        x.up(0, 3);
        Check.due("take", 1, () -> x.take(3, 6));
        Check.due("take again", 0, () -> x.take(3, 6));
        dueArgument(x, "1 1023 0", 6);
        x.put(0, false, ONE, 511);
        x.up(0, 4);
        Check.due("none of the SET", REFUSED, () -> x.take(4, 6));
        dueArgument(x, "1 1023 0", 6);
        Check.due("a ZERO for -1", 1, () -> x.take(0, 6));
        dueHouse(x, 5, 2, 1, 0);
    }

    // ---- the answers

    private static void testKeep() {
        Nearplaces x = with(true, TEN, 0);
        Check.due("keep", 1, () -> x.keep(0, 7));
        Check.due("keep again", 0, () -> x.keep(0, 7));
        dueAnswer(x, "1 1026 1125899906842624", 7);
        x.put(1, true, ZERO, 0);
        Check.due("the other ZERO", 1, () -> x.keep(1, 0));
        dueAnswer(x, "1 0 0", 0);
        dueHouse(x, 2, 3, 0, 0);
    }

    private static void testUp() {
        Nearplaces x = with(false, ONE, -1);
        Check.due("up to 1", 1, () -> x.up(0, 0));
        dueAnswer(x, "0 1023 0", 0);
        Check.due("up again", 0, () -> x.up(0, 0));
        x.put(0, true, ONE, 0);
        Check.due("up from -1", 1, () -> x.up(0, 0));
        dueAnswer(x, "1 1022 4503599627370495", 0);
        x.put(0, true, ZERO, 1);
        Check.due("up from PLACE -1", 1, () -> x.up(0, 0));
        dueAnswer(x, "1 0 0", 0);
        for (boolean isBelow : new boolean[] {true, false}) {
            x.put(0, isBelow, ZERO, 0);
            x.up(0, 1);
            dueAnswer(x, "0 0 1", 1);
        }
        x.put(0, false, GREATEST, 0);
        Check.due("up from TOP", REFUSED, () -> x.up(0, 1));
        dueAnswer(x, "0 0 1", 1);
        x.put(0, true, GREATEST, 0);
        Check.due("up from -TOP", 1, () -> x.up(0, 1));
        dueAnswer(x, "1 2046 4503599627370494", 1);
        dueHouse(x, 7, 7, 1, 0);
    }

    private static void testDown() {
        Nearplaces x = with(false, ONE, 0);
        Check.due("down from 1", 1, () -> x.down(0, 0));
        dueAnswer(x, "0 1022 4503599627370495", 0);
        Check.due("down again", 0, () -> x.down(0, 0));
        x.put(0, true, ONE, 0);
        Check.due("down from -1", 1, () -> x.down(0, 0));
        dueAnswer(x, "1 1023 1", 0);
        x.put(0, false, ZERO, 1);
        Check.due("down from PLACE 1", 1, () -> x.down(0, 0));
        dueAnswer(x, "0 0 0", 0);
        for (boolean isBelow : new boolean[] {true, false}) {
            x.put(0, isBelow, ZERO, 0);
            x.down(0, 1);
            dueAnswer(x, "1 0 1", 1);
        }
        x.put(0, true, GREATEST, 0);
        Check.due("down from -TOP", REFUSED, () -> x.down(0, 1));
        dueAnswer(x, "1 0 1", 1);
        x.put(0, false, GREATEST, 0);
        Check.due("down from TOP", 1, () -> x.down(0, 1));
        dueAnswer(x, "0 2046 4503599627370494", 1);
        dueHouse(x, 7, 7, 1, 0);
    }

    private static void testSteps() {
        Nearplaces x = with(false, ONE, 511);
        Check.due("1023 down", 1, () -> x.steps(0, -1023, 0));
        Check.due("1023 down again", 0, () -> x.steps(0, -1023, 0));
        dueAnswer(x, "0 1022 4503599627369984", 0);
        Check.due("one up, out of the WINDOW", REFUSED, () -> x.steps(0, 1, 0));
        x.put(0, true, ONE, 511);
        Check.due("1023 up, below 0", 1, () -> x.steps(0, 1023, 0));
        dueAnswer(x, "1 1022 4503599627369984", 0);
        Check.due("one down, below 0", REFUSED, () -> x.steps(0, -1, 0));
        Check.due("no step", 1, () -> x.steps(0, 0, 0));
        dueAnswer(x, "1 1023 511", 0);
        testStepsAtZero(x);
        x.put(0, false, GREATEST, 0);
        Check.due("up from TOP", REFUSED, () -> x.steps(0, 1, 0));
        Check.due("far up from TOP", REFUSED, () -> x.steps(0, 1023, 0));
        Check.due("no step from TOP", 1, () -> x.steps(0, 0, 0));
        dueAnswer(x, "0 2046 4503599627370495", 0);
        for (int many : new int[] {-1024, 1024, Integer.MIN_VALUE, Integer.MAX_VALUE}) {
            Check.due("many " + many, ARGUMENT, () -> x.steps(0, many, 0));
        }
    }

    private static void testStepsAtZero(Nearplaces x) {
        x.put(0, true, ZERO, 400);
        Check.due("over ZERO", 1, () -> x.steps(0, 800, 0));
        dueAnswer(x, "0 0 400", 0);
        x.steps(0, 400, 0);
        dueAnswer(x, "1 0 0", 0);
        x.put(0, false, ZERO, 400);
        x.steps(0, -400, 0);
        dueAnswer(x, "0 0 0", 0);
        x.put(0, true, ZERO, 0);
        x.steps(0, 0, 0);
        dueAnswer(x, "1 0 0", 0);
        x.steps(0, 3, 0);
        dueAnswer(x, "0 0 3", 0);
        x.steps(0, -3, 0);
        dueAnswer(x, "1 0 3", 0);
        Check.due("out of the WINDOW of ZERO", REFUSED, () -> x.steps(0, 512, 0));
        Check.due("likewise below", REFUSED, () -> x.steps(0, -512, 0));
        dueAnswer(x, "1 0 3", 0);
    }

    private static void testTowards() {
        Nearplaces x = withTwo(ONE, 0, TEN, 0);
        Check.due("up", 1, () -> x.towards(0, 1, 0));
        Check.due("up again", 0, () -> x.towards(0, 1, 0));
        dueAnswer(x, "0 1023 1", 0);
        x.put(1, true, TEN, 0);
        x.towards(0, 1, 0);
        dueAnswer(x, "0 1022 4503599627370495", 0);
        x.towards(1, 0, 0);
        dueAnswer(x, "1 1026 1125899906842623", 0);
        x.put(2, false, ZERO, 0);
        x.put(3, true, ZERO, 0);
        x.towards(2, 3, 1);
        dueAnswer(x, "1 0 0", 1);
        x.towards(3, 2, 1);
        dueAnswer(x, "0 0 0", 1);
        x.put(4, true, ZERO, 1);
        x.towards(4, 2, 1);
        dueAnswer(x, "1 0 0", 1);
        x.put(4, false, ZERO, 1);
        x.towards(4, 3, 1);
        dueAnswer(x, "0 0 0", 1);
        x.towards(4, 4, 1);
        dueAnswer(x, "0 0 1", 1);
        x.put(5, false, ONE, 2);
        Check.due("the first one not NEAR", REFUSED, () -> x.towards(5, 0, 1));
        Check.due("the other one not NEAR", REFUSED, () -> x.towards(0, 5, 1));
        dueAnswer(x, "0 0 1", 1);
        x.put(6, false, GREATEST, 0);
        x.put(7, false, GREATEST, -1);
        x.towards(7, 6, 1);
        dueAnswer(x, "0 2046 4503599627370495", 1);
        dueHouse(x, 10, 10, 2, 0);
    }

    private static void testShift() {
        Nearplaces x = with(false, TWO, 0);
        Check.due("2^1 * 2^-2", 1, () -> x.shift(0, -2, 0));
        Check.due("again", 0, () -> x.shift(0, -2, 0));
        dueAnswer(x, "0 1022 0", 0);
        dueShift(x, 63, "1*2^64");
        dueShift(x, 64, "1*2^97");
        dueShift(x, 92, "1*2^1021");
        Check.due("2^1 * 2^1053", REFUSED, () -> x.shift(0, 93, 0));
        dueShift(x, -64, "1*2^-63");
        dueShift(x, -65, "1*2^-96");
        dueShift(x, -94, "1*2^-1053");
        dueShift(x, -95, "0*2^0");
        dueShift(x, -128, "0*2^0");
        dueShift(x, 0, "1*2^1");
        Check.due("2^1 * 2^2175", REFUSED, () -> x.shift(0, 127, 0));
        x.put(0, true, TWO, 0);
        dueShift(x, -128, "-0*2^0");
        x.put(0, false, ONE, 2);
        Check.due("not NEAR", REFUSED, () -> x.shift(0, 0, 0));
        for (int by : new int[] {-129, 128, Integer.MIN_VALUE, Integer.MAX_VALUE}) {
            Check.due("by " + by, ARGUMENT, () -> x.shift(0, by, 0));
        }
        testShiftRounds();
    }

    private static void dueShift(Nearplaces x, int by, String due) {
        x.shift(0, by, 0);
        Check.due("binary of the shift by " + by, due, () -> x.binary(true, 0));
    }

    private static void testShiftRounds() {
        Nearplaces x = with(false, LEAST_NORMAL, 1);
        dueShift(x, -1, "1*2^-1023");
        dueShift(x, -2, "1*2^-1024");
        x.put(0, false, LEAST_NORMAL, -1);
        dueShift(x, -1, "1*2^-1023");
        dueShift(x, -52, "1*2^-1074");
        dueShift(x, -53, "0*2^0");
        x.put(0, true, LEAST_NORMAL, 0);
        dueShift(x, -52, "-1*2^-1074");
        dueShift(x, -53, "-0*2^0");
        x.put(0, true, LEAST_NORMAL, 1);
        dueShift(x, -53, "-1*2^-1074");
        dueShift(x, -54, "-0*2^0");
        x.put(0, true, ZERO, 0);
        dueShift(x, 127, "-0*2^0");
        dueShift(x, -128, "-0*2^0");
        x.put(0, false, GREAT, 0);
        Check.due("2^1023 * 2", REFUSED, () -> x.shift(0, 1, 0));
        x.put(0, true, GREATEST, 0);
        Check.due("-TOP * 2", REFUSED, () -> x.shift(0, 1, 0));
        dueShift(x, 0, "-9007199254740991*2^971");
    }

    private static void testUnits() {
        Nearplaces x = with(false, ONE, 0);
        Check.due("unit", 1, () -> x.unit(0, 0));
        Check.due("unit again", 0, () -> x.unit(0, 0));
        Check.due("unitByPower", 1, () -> x.unitByPower(0, 1));
        Check.due("unitByPower again", 0, () -> x.unitByPower(0, 1));
        dueUnit(x, "1*2^-52");
        x.put(0, false, ONE, -1);
        dueUnit(x, "1*2^-53");
        x.put(0, true, ONE, 511);
        dueUnit(x, "1*2^-52");
        x.put(0, true, ZERO, 0);
        dueUnit(x, "1*2^-1074");
        x.put(0, true, LEAST_NORMAL, -1);
        dueUnit(x, "1*2^-1074");
        x.put(0, true, LEAST_NORMAL, 0);
        dueUnit(x, "1*2^-1074");
        x.put(0, true, SECOND_NORMAL, 0);
        dueUnit(x, "1*2^-1073");
        x.put(0, false, 4, 0);
        dueUnit(x, "1*2^-1023");
        x.put(0, false, 5, 0);
        dueUnit(x, "1*2^-1022");
        x.put(0, false, GREATEST, 0);
        dueUnit(x, "1*2^971");
        dueHouse(x, 10, 4 + 2 * 10, 0, 0);
    }

    private static void dueUnit(Nearplaces x, String due) {
        x.unit(0, 0);
        x.unitByPower(0, 1);
        Check.due("binary of the unit", due, () -> x.binary(true, 0));
        Check.due("binary of the unit by power", due, () -> x.binary(true, 1));
    }

    private static void testGap() {
        Nearplaces x = with(false, ONE, 0);
        Check.due("gap", 1, () -> x.gap(0, true, 0));
        Check.due("gap again", 0, () -> x.gap(0, true, 0));
        dueGap(x, true, "1*2^-52");
        dueGap(x, false, "1*2^-53");
        x.put(0, true, ONE, 0);
        dueGap(x, true, "1*2^-53");
        dueGap(x, false, "1*2^-52");
        x.put(0, true, ZERO, 0);
        dueGap(x, true, "1*2^-1074");
        dueGap(x, false, "1*2^-1074");
        x.put(0, false, LEAST_NORMAL, 0);
        dueGap(x, false, "1*2^-1074");
        x.put(0, false, GREATEST, 0);
        Check.due("above TOP", REFUSED, () -> x.gap(0, true, 0));
        dueGap(x, false, "1*2^971");
        x.put(0, true, GREATEST, 0);
        Check.due("below -TOP", REFUSED, () -> x.gap(0, false, 0));
        dueGap(x, true, "1*2^971");
        dueHouse(x, 6, 11, 2, 0);
    }

    private static void dueGap(Nearplaces x, boolean isUp, String due) {
        x.gap(0, isUp, 0);
        Check.due("binary of the gap", due, () -> x.binary(true, 0));
    }

    private static void testSum() {
        Nearplaces x = withTwo(ONE, 0, TEN, 0);
        Check.due("1 + 10", 1, () -> x.sum(0, 1, false, 0));
        Check.due("1 + 10 again", 0, () -> x.sum(0, 1, false, 0));
        Check.due("11", "11", () -> x.decimal(true, 0));
        dueSum(x, true, "-9*2^0");
        x.put(1, false, 9, 0);
        dueSum(x, false, "1*2^0");
        dueSum(x, true, "9007199254740991*2^-53");
        x.put(1, false, 9, 1);
        dueSum(x, false, "4503599627370497*2^-52");
        x.put(0, false, ONE, 1);
        x.put(1, false, 9, 0);
        dueSum(x, false, "2251799813685249*2^-51");
        dueSum(x, true, "1*2^0");
        x.put(1, false, ONE, 1);
        dueSum(x, true, "0*2^0");
        testSumOfZeros(x);
        testRefusedPairs(x, false);
    }

    private static void dueSum(Nearplaces x, boolean isMinus, String due) {
        x.sum(0, 1, isMinus, 0);
        Check.due("binary of the sum", due, () -> x.binary(true, 0));
    }

    private static void testSumOfZeros(Nearplaces x) {
        x.put(0, true, ZERO, 0);
        x.put(1, true, ZERO, 0);
        dueSum(x, false, "-0*2^0");
        dueSum(x, true, "0*2^0");
        x.put(1, false, ZERO, 0);
        dueSum(x, false, "0*2^0");
        dueSum(x, true, "-0*2^0");
        x.put(0, false, ZERO, 0);
        dueSum(x, false, "0*2^0");
        dueSum(x, true, "0*2^0");
    }

    private static void testRefusedPairs(Nearplaces x, boolean isError) {
        x.put(0, false, ONE, 0);
        x.put(1, false, GREAT, 0);
        x.put(2, false, ONE, 2);
        int before = x.house(1);
        for (int cell = 1; cell <= 2; cell++) {
            int bad = cell;
            for (boolean isMinus : new boolean[] {false, true}) {
                Check.due("first", REFUSED, () -> added(x, isError, bad, 0, isMinus));
                Check.due("other", REFUSED, () -> added(x, isError, 0, bad, isMinus));
                Check.due("both", REFUSED, () -> added(x, isError, bad, bad, isMinus));
            }
        }
        Check.due("house(1)", before, () -> x.house(1));
        Check.due("house(2)", 12, () -> x.house(2));
        x.put(1, false, GREAT, -1);
        Check.due("EXPONENT 2045", true, () -> added(x, isError, 0, 1, false) >= 0);
        Check.due("a cell between", INDEX, () -> added(x, isError, 0, 8, false));
    }

    private static int added(Nearplaces x, boolean isError, int one, int other, boolean isMinus) {
        return isError ? x.error(one, other, isMinus, 7) : x.sum(one, other, isMinus, 7);
    }

    private static void testError() {
        Nearplaces x = withTwo(ONE, 0, 9, 0);
        Check.due("1 + 2^-53", 1, () -> x.error(0, 1, false, 0));
        Check.due("again", 0, () -> x.error(0, 1, false, 0));
        dueError(x, false, "1*2^-53");
        dueError(x, true, "0*2^0");
        x.put(1, false, 9, 1);
        dueError(x, false, "-4503599627370495*2^-105");
        x.put(0, false, ONE, 1);
        x.put(1, false, 9, 0);
        dueError(x, false, "-1*2^-53");
        dueError(x, true, "1*2^-53");
        x.put(1, false, ZERO, 1);
        dueError(x, false, "1*2^-1074");
        dueError(x, true, "-1*2^-1074");
        x.put(0, true, ZERO, 0);
        x.put(1, true, ZERO, 0);
        dueError(x, false, "0*2^0");
        dueError(x, true, "0*2^0");
        x.put(0, true, ONE, 0);
        x.put(1, true, ONE, 0);
        dueError(x, true, "0*2^0");
        testRefusedPairs(x, true);
    }

    private static void dueError(Nearplaces x, boolean isMinus, String due) {
        x.error(0, 1, isMinus, 0);
        Check.due("binary of the error", due, () -> x.binary(true, 0));
    }

    private static void testMiddle() {
        Nearplaces x = withTwo(LEAST_NORMAL, 0, SECOND_NORMAL, 0);
        Check.due("middle", 1, () -> x.middle(0, 1, 0));
        Check.due("middle again", 0, () -> x.middle(0, 1, 0));
        duePlace(x, "6755399441055744", true, 0);
        x.put(0, false, ZERO, 1);
        x.put(1, true, ZERO, 0);
        x.middle(0, 1, 0);
        dueAnswer(x, "0 0 0", 0);
        x.put(0, true, ZERO, 1);
        x.middle(0, 1, 0);
        dueAnswer(x, "1 0 1", 0);
        x.put(1, false, ZERO, 1);
        x.middle(0, 1, 0);
        dueAnswer(x, "0 0 0", 0);
        x.put(0, false, GREATEST, 0);
        x.put(1, false, GREATEST, -1);
        x.middle(0, 1, 0);
        dueAnswer(x, "0 2046 4503599627370494", 0);
        x.minus(0);
        x.minus(1);
        x.middle(0, 1, 0);
        dueAnswer(x, "1 2046 4503599627370495", 0);
        x.put(2, false, ONE, 2);
        Check.due("the first one not NEAR", REFUSED, () -> x.middle(2, 0, 0));
        Check.due("the other one not NEAR", REFUSED, () -> x.middle(0, 2, 0));
        dueAnswer(x, "1 2046 4503599627370495", 0);
        dueHouse(x, 11, 7, 2, 0);
    }

    private static void testLeast() {
        Nearplaces x = with(false, ONE, 0);
        Check.due("least of its value", 64, () -> x.least(0, 0, 0));
        dueAnswer(x, "0 1023 0", 0);
        Check.due("again, all stays", 64, () -> x.least(0, 0, 0));
        dueHouse(x, 1, 2, 0, 0);
        x.put(0, false, GREATEST, 0);
        Check.due("least of TOP", 64, () -> x.least(0, 0, 0));
        dueAnswer(x, "0 2046 4503599627370495", 0);
        Check.due("TOP has not the UNIT", REFUSED, () -> x.least(6, 0, 0));
        Check.due("too great for sums", REFUSED, () -> x.least(3, 0, 0));
        x.put(0, true, GREAT, 0);
        Check.due("too far below for sums", REFUSED, () -> x.least(3, 0, 0));
        dueAnswer(x, "0 2046 4503599627370495", 0);
        dueHouse(x, 3, 3, 3, 0);
        for (int property : new int[] {-1, 7, Integer.MIN_VALUE, Integer.MAX_VALUE}) {
            Check.due("property " + property, ARGUMENT, () -> x.least(property, 0, 0));
        }
    }

    private static void testProperties() {
        Nearplaces x = with(false, ONE, 1);
        String[] above = {"0 1023 1", "0 1023 0", "0 1023 0", "0 970 0", "0 1022 1", "0 1023 0", "0 1076 0"};
        String[] below = {"1 1023 1", "0 1023 0", "0 1023 0", "0 970 0", "1 1022 1", "1 1023 2", "0 0 0"};
        for (int property = 0; property < 7; property++) {
            x.put(0, false, ONE, 1);
            x.least(property, 0, 0);
            dueAnswer(x, above[property], 0);
            x.put(0, true, ONE, 1);
            x.least(property, 0, 0);
            dueAnswer(x, below[property], 0);
        }
        x.put(0, false, 10, 511);
        x.put(1, false, LEAST_NORMAL, -1);
        x.least(1, 1, 1);
        dueAnswer(x, "0 0 0", 1);
        x.least(2, 1, 1);
        dueAnswer(x, "0 0 0", 1);
        x.least(3, 1, 1);
        dueAnswer(x, "0 0 1", 1);
        x.least(6, 1, 1);
        dueAnswer(x, "0 53 0", 1);
        x.put(1, false, LEAST_NORMAL, 0);
        x.least(2, 1, 1);
        dueAnswer(x, "0 1 0", 1);
        x.least(1, 1, 1);
        dueAnswer(x, "0 0 0", 1);
        x.least(4, 1, 1);
        dueAnswer(x, "0 0 2251799813685248", 1);
        x.put(1, true, ZERO, 1);
        x.least(4, 1, 1);
        dueAnswer(x, "0 0 0", 1);
        x.put(1, true, GREATEST, 0);
        x.least(5, 1, 1);
        dueAnswer(x, "1 2046 4503599627370495", 1);
        x.least(0, 1, 1);
        dueAnswer(x, "1 2046 4503599627370495", 1);
    }

    private static void testReadBinary() {
        Nearplaces x = with(true, TENTH, 0);
        Check.due("of an ARGUMENT", 1, () -> x.readBinary(false, 0, 0));
        Check.due("again", 0, () -> x.readBinary(false, 0, 0));
        dueAnswer(x, "1 1019 2702159776422298", 0);
        Check.due("of an ANSWER", 1, () -> x.readBinary(true, 0, 7));
        dueAnswer(x, "1 1019 2702159776422298", 7);
        x.put(0, true, ZERO, 0);
        x.readBinary(false, 0, 0);
        dueAnswer(x, "1 0 0", 0);
        x.put(0, false, ZERO, 1);
        x.readBinary(false, 0, 0);
        dueAnswer(x, "0 0 1", 0);
        x.put(0, false, GREATEST, 0);
        x.readBinary(false, 0, 0);
        dueAnswer(x, "0 2046 4503599627370495", 0);
        dueHouse(x, 4, 6, 0, 0);
    }

    private static void testReadDecimal() {
        Nearplaces x = with(true, TENTH, 0);
        Check.due("of an ARGUMENT", 1, () -> x.readDecimal(false, 0, 0));
        Check.due("again", 0, () -> x.readDecimal(false, 0, 0));
        dueAnswer(x, "1 1019 2702159776422298", 0);
        Check.due("of an ANSWER", 1, () -> x.readDecimal(true, 0, 7));
        dueAnswer(x, "1 1019 2702159776422298", 7);
        x.put(0, true, ZERO, 0);
        x.readDecimal(false, 0, 0);
        dueAnswer(x, "1 0 0", 0);
        x.put(0, false, 27, 1);
        x.readDecimal(false, 0, 0);
        dueAnswer(x, "0 1096 123456789012346", 0);
        x.put(0, false, 7, 0);
        Check.due("without DECIMAL", REFUSED, () -> x.readDecimal(false, 0, 0));
        dueAnswer(x, "0 1096 123456789012346", 0);
        testReadDecimalAtBounds(x);
        dueHouse(x, 9, 11, 3, 0);
    }

    private static void testReadDecimalAtBounds(Nearplaces x) {
        bringRaises(x);
        Check.due("read RAISE 200", 1, () -> x.readDecimal(true, 0, 7));
        Check.due("SAME", true, () -> x.isSame(true, 0, true, 7));
        Check.due("read RAISE 201", REFUSED, () -> x.readDecimal(true, 1, 7));
        Check.due("read RAISE -200", 1, () -> x.readDecimal(true, 2, 7));
        Check.due("SAME", true, () -> x.isSame(true, 2, true, 7));
        Check.due("read RAISE -201", REFUSED, () -> x.readDecimal(true, 3, 7));
        Check.due("SAME still", true, () -> x.isSame(true, 2, true, 7));
    }

    /** ANSWERS 0 to 3 become numbers with RAISE 200, 201, -200, -201. */
    private static void bringRaises(Nearplaces x) {
        x.put(0, false, GREAT, 0);
        x.shift(0, -87, 0);
        x.put(0, false, 22, 0);
        x.put(1, false, 28, 1);
        x.middle(0, 1, 1);
        x.put(0, false, LEAST_NORMAL, 0);
        x.shift(0, 86, 2);
        x.put(0, false, 1, 0);
        x.shift(0, 86, 3);
    }

    // ---- what is asked of arguments

    private static void testPowers() {
        duePowers(false, ONE, 0, 0, 0);
        duePowers(true, ONE, -1, -1, -1);
        duePowers(true, TEN, 0, 3, 3);
        duePowers(false, ZERO, 0, -1023, -1022);
        duePowers(true, LEAST_NORMAL, -1, -1023, -1022);
        duePowers(true, LEAST_NORMAL, 0, -1022, -1022);
        duePowers(false, SECOND_NORMAL, 0, -1021, -1021);
        duePowers(false, GREATEST, 0, 1023, 1023);
    }

    private static void duePowers(boolean isBelow, int knot, int offset, int power, int powerByUnit) {
        Nearplaces x = with(isBelow, knot, offset);
        Check.due("power", power, () -> x.power(0));
        Check.due("powerByUnit", powerByUnit, () -> x.powerByUnit(0));
        dueHouse(x, 1, 0, 0, 0);
    }

    private static void testIsEdge() {
        dueEdge(true, false, ONE, 0);
        dueEdge(true, true, ONE, 0);
        dueEdge(false, false, ONE, 1);
        dueEdge(false, true, ONE, -1);
        dueEdge(false, false, ZERO, 0);
        dueEdge(false, true, ZERO, 0);
        dueEdge(false, true, ZERO, 1);
        dueEdge(false, false, LEAST_NORMAL, 0);
        dueEdge(true, true, SECOND_NORMAL, 0);
        dueEdge(false, false, TEN, 0);
        dueEdge(true, false, GREAT, 0);
        dueEdge(false, false, GREATEST, 0);
    }

    private static void dueEdge(boolean due, boolean isBelow, int knot, int offset) {
        Nearplaces x = with(isBelow, knot, offset);
        Check.due("isEdge of knot " + knot + ", " + offset, due, () -> x.isEdge(0));
    }

    private static void testIsUnitStep() {
        for (int knot = 0; knot < 32; knot++) {
            for (int offset = -2; offset <= 2; offset++) {
                Nearplaces x = with(false, knot, offset);
                Check.due("isUnitStep of knot " + knot, true, () -> x.isUnitStep(0));
                x.minus(0);
                Check.due("isUnitStep below of knot " + knot, true, () -> x.isUnitStep(0));
            }
        }
    }

    private static void testIsNear() {
        for (int offset = -512; offset <= 511; offset++) {
            Nearplaces x = with(offset % 2 == 0, ONE, offset);
            Check.due("isNear at offset " + offset, offset >= -2 && offset <= 1, () -> x.isNear(0));
        }
        Check.due("a ZERO", true, () -> with(true, ZERO, 0).isNear(0));
        Check.due("by ZERO", true, () -> with(true, ZERO, 1).isNear(0));
        Check.due("two from ZERO", false, () -> with(true, ZERO, 2).isNear(0));
        Check.due("TOP", true, () -> with(false, GREATEST, 0).isNear(0));
        Check.due("three below TOP", false, () -> with(false, GREATEST, -3).isNear(0));
    }

    private static void testIsWithin() {
        dueWithin(true, ONE, 0, TWO, 0);
        dueWithin(false, ONE, 0, TWO, 1);
        dueWithin(true, ONE, 1, TWO, 1);
        dueWithin(false, ONE, -1, TWO, 0);
        dueWithin(true, ONE, -1, TWO, -1);
        dueWithin(true, TWO, 0, FOUR, 0);
        dueWithin(true, ZERO, 0, ZERO, 0);
        dueWithin(false, ZERO, 0, ZERO, 1);
        dueWithin(true, ZERO, 1, ZERO, 2);
        dueWithin(false, ZERO, 1, ZERO, 3);
        dueWithin(true, 1, 0, LEAST_NORMAL, 0);
        dueWithin(false, 1, 0, LEAST_NORMAL, 1);
        dueWithin(true, 1, 1, LEAST_NORMAL, 2);
        dueWithin(true, LEAST_NORMAL, 0, SECOND_NORMAL, 0);
        dueWithin(false, LEAST_NORMAL, 0, SECOND_NORMAL, 1);
        dueWithin(true, LEAST_NORMAL, -1, SECOND_NORMAL, -2);
        dueWithin(true, GREAT, 0, GREATEST, 0);
        dueWithin(true, GREATEST, 0, GREATEST, 0);
        dueWithin(false, 29, -1, GREATEST, 0);
    }

    private static void dueWithin(boolean due, int knot, int offset, int otherKnot, int otherOffset) {
        Nearplaces x = withTwo(knot, offset, otherKnot, otherOffset);
        String told = "isWithin of " + knot + ", " + offset + " and " + otherKnot + ", " + otherOffset;
        Check.due(told, due, () -> x.isWithin(0, 1));
        Check.due(told + " turned", due, () -> x.isWithin(1, 0));
        x.minus(0);
        Check.due(told + ", the first one below", false, () -> x.isWithin(0, 1));
        x.minus(1);
        Check.due(told + ", both below", due, () -> x.isWithin(0, 1));
        Check.due("itself", true, () -> x.isWithin(0, 0));
    }

    private static void testExact() {
        Nearplaces x = withTwo(ONE, 0, 9, 0);
        Check.due("1 + 2^-53", 0, () -> x.exact(0, 1, false));
        Check.due("1 - 2^-53", 1, () -> x.exact(0, 1, true));
        Check.due("2^-53 - 1", 1, () -> x.exact(1, 0, true));
        Check.due("1 + 1", 1, () -> x.exact(0, 0, false));
        for (boolean isMinus : new boolean[] {false, true}) {
            Check.due("holds", 1, () -> x.holds(0, 1, isMinus));
            Check.due("holds turned", 1, () -> x.holds(1, 0, isMinus));
        }
        x.put(2, false, GREATEST, 0);
        x.put(3, false, ONE, -3);
        for (int cell = 2; cell <= 3; cell++) {
            int bad = cell;
            Check.due("exact", REFUSED, () -> x.exact(bad, 0, false));
            Check.due("exact turned", REFUSED, () -> x.exact(0, bad, true));
            Check.due("holds", REFUSED, () -> x.holds(bad, 0, false));
            Check.due("holds turned", REFUSED, () -> x.holds(0, bad, true));
        }
        dueHouse(x, 4, 0, 8, 0);
    }

    private static void testWalk() {
        Nearplaces x = withTwo(ONE, -512, ONE, 511);
        Check.due("1023 steps up", 1023, () -> x.walk(0, 1));
        Check.due("1023 steps down", 1023, () -> x.walk(1, 0));
        Check.due("no step", 0, () -> x.walk(0, 0));
        x.put(0, true, ZERO, 511);
        x.put(1, false, ZERO, 511);
        Check.due("1022 steps over ZERO", 1022, () -> x.walk(0, 1));
        Check.due("to the other one's VALUE", 511, () -> x.walk(2, 1));
        x.put(2, true, ZERO, 0);
        Check.due("between the ZEROS", 0, () -> x.walk(2, 3));
        x.put(1, false, ONE, 0);
        Check.due("too far", REFUSED, () -> x.walk(0, 1));
        x.put(0, true, GREATEST, 0);
        x.put(1, false, GREATEST, 0);
        Check.due("all the way up", REFUSED, () -> x.walk(0, 1));
        Check.due("all the way down", REFUSED, () -> x.walk(1, 0));
        dueHouse(x, 8, 0, 3, 0);
    }

    // ---- what is asked of both

    private static void testWindow() {
        for (int knot = 0; knot < 32; knot++) {
            for (int offset : new int[] {-512, -1, 0, 511}) {
                Nearplaces x = new Nearplaces();
                int told = knot;
                if (x.put(3, knot % 2 == 0, knot, offset) != REFUSED) {
                    x.keep(3, 4);
                    Check.due("window", told, () -> x.window(false, 3));
                    Check.due("offset", offset, () -> x.offset(false, 3));
                    Check.due("window of the ANSWER", told, () -> x.window(true, 4));
                    Check.due("offset of the ANSWER", offset, () -> x.offset(true, 4));
                }
            }
        }
        Nearplaces x = with(false, ONE, 511);
        x.up(0, 0);
        Check.due("no window", -1, () -> x.window(true, 0));
        Check.due("no offset", -9999, () -> x.offset(true, 0));
        x.put(0, true, ONE, -512);
        x.up(0, 0);
        Check.due("no window below", -1, () -> x.window(true, 0));
        Check.due("no offset below", -9999, () -> x.offset(true, 0));
    }

    private static void testDigits() {
        Nearplaces x = with(true, TENTH, 0);
        x.up(0, 5);
        Check.due("upper", 0xbfb99999, () -> x.upper(false, 0));
        Check.due("lower", 0x9999999a, () -> x.lower(false, 0));
        Check.due("upper of the ANSWER", 0xbfb99999, () -> x.upper(true, 5));
        Check.due("lower of the ANSWER", 0x99999999, () -> x.lower(true, 5));
        x.put(0, true, ZERO, 0);
        Check.due("upper of ZERO", 0x80000000, () -> x.upper(false, 0));
        Check.due("lower of ZERO", 0, () -> x.lower(false, 0));
    }

    private static void testParts() {
        Nearplaces x = with(true, TENTH, 0);
        x.down(0, 5);
        Check.due("of an ARGUMENT", "1 1019 2702159776422298", () -> x.parts(false, 0));
        Check.due("of an ANSWER", "1 1019 2702159776422299", () -> x.parts(true, 5));
        x.put(0, false, GREATEST, 0);
        Check.due("of TOP", "0 2046 4503599627370495", () -> x.parts(false, 0));
        x.put(0, true, ZERO, 0);
        Check.due("of ZERO", "1 0 0", () -> x.parts(false, 0));
    }

    private static void testPlace() {
        Nearplaces x = with(false, GREATEST, 0);
        Check.due("TOP", "9218868437227405311", () -> x.place(false, 0));
        x.minus(0);
        Check.due("-TOP", "-9218868437227405311", () -> x.place(false, 0));
        x.up(0, 0);
        Check.due("-TOP + 1", "-9218868437227405310", () -> x.place(true, 0));
        x.put(0, true, ZERO, 0);
        Check.due("ZERO with SIGN 1", "0", () -> x.place(false, 0));
        Check.due("ZERO with SIGN 0", "0", () -> x.place(true, 1));
        x.put(0, true, ZERO, 10);
        Check.due("-10", "-10", () -> x.place(false, 0));
    }

    private static void testBetween() {
        Nearplaces x = with(true, GREATEST, 0);
        x.put(1, false, GREATEST, 0);
        x.keep(1, 2);
        Check.due("up", "18437736874454810622", () -> x.between(false, 0, false, 1));
        Check.due("down", "-18437736874454810622", () -> x.between(false, 1, false, 0));
        Check.due("to an ANSWER", "18437736874454810622", () -> x.between(false, 0, true, 2));
        Check.due("from an ANSWER", "-18437736874454810622", () -> x.between(true, 2, false, 0));
        Check.due("none", "0", () -> x.between(true, 2, false, 1));
        x.put(3, true, ZERO, 0);
        Check.due("the ZEROS", "0", () -> x.between(false, 3, true, 0));
        x.put(3, true, ZERO, 7);
        Check.due("seven", "7", () -> x.between(false, 3, true, 0));
        Check.due("seven back", "-7", () -> x.between(true, 0, false, 3));
    }

    private static void testBinary() {
        Nearplaces x = with(true, 14, 0);
        x.shift(0, 0, 0);
        Check.due("-1/2", "-1*2^-1", () -> x.binary(false, 0));
        Check.due("its ANSWER", "-1*2^-1", () -> x.binary(true, 0));
        x.put(0, false, TEN, 0);
        Check.due("10", "5*2^1", () -> x.binary(false, 0));
        x.put(0, false, ONE, 0);
        Check.due("1", "1*2^0", () -> x.binary(false, 0));
        x.put(0, true, ZERO, 0);
        Check.due("-0", "-0*2^0", () -> x.binary(false, 0));
        Check.due("0", "0*2^0", () -> x.binary(false, 1));
        x.put(0, true, ZERO, 10);
        Check.due("-10 of the least", "-5*2^-1073", () -> x.binary(false, 0));
        x.put(0, false, GREATEST, 0);
        Check.due("the greatest", "9007199254740991*2^971", () -> x.binary(false, 0));
    }

    private static void testDecimal() {
        Nearplaces x = with(true, TENTH, 0);
        String tenth = "0.1000000000000000055511151231257827021181583404541015625";
        Check.due("-0.1", "-" + tenth, () -> x.decimal(false, 0));
        x.minus(0);
        x.keep(0, 0);
        Check.due("its ANSWER", tenth, () -> x.decimal(true, 0));
        x.put(0, true, TEN, 0);
        Check.due("-10", "-10", () -> x.decimal(false, 0));
        x.put(0, true, ZERO, 0);
        Check.due("-0", "-0", () -> x.decimal(false, 0));
        Check.due("0", "0", () -> x.decimal(false, 1));
        x.put(0, false, 17, 0);
        Check.due("1.5", "1.5", () -> x.decimal(false, 0));
        x.put(0, false, 25, 0);
        Check.due("2^53", "9007199254740992", () -> x.decimal(false, 0));
        x.put(0, false, 7, 0);
        Check.due("none, small", "", () -> x.decimal(false, 0));
        x.put(0, false, 28, 0);
        Check.due("none, great", "", () -> x.decimal(false, 0));
        testDecimalAtBounds();
    }

    private static void testDecimalAtBounds() {
        Nearplaces x = new Nearplaces();
        bringRaises(x);
        Check.due("RAISE 200", "1*2^200", () -> x.binary(true, 0));
        Check.due("RAISE 201", "2364389804369511*2^201", () -> x.binary(true, 1));
        Check.due("RAISE -200", "1*2^-200", () -> x.binary(true, 2));
        Check.due("RAISE -201", "1*2^-201", () -> x.binary(true, 3));
        String great = "1606938044258990275541962092341162602522202993782792835301376";
        Check.due("2^200", great, () -> x.decimal(true, 0));
        Check.due("none above", "", () -> x.decimal(true, 1));
        String small = new java.math.BigDecimal(Math.scalb(1.0, -200)).toPlainString();
        Check.due("2^-200", small, () -> x.decimal(true, 2));
        Check.due("none below", "", () -> x.decimal(true, 3));
        int[] decimals = {0, -1, 200, -1};
        for (int cell = 0; cell < 4; cell++) {
            int told = cell;
            Check.due("decimals of ANSWER " + cell, decimals[cell], () -> x.decimals(true, told));
        }
        Check.due("isSound()", true, x::isSound);
    }

    private static void testDecimals() {
        Nearplaces x = with(true, TENTH, 0);
        Check.due("-0.1", 55, () -> x.decimals(false, 0));
        x.put(0, true, TEN, 0);
        Check.due("-10", 0, () -> x.decimals(false, 0));
        x.keep(0, 3);
        x.put(0, true, ZERO, 0);
        Check.due("-0", 0, () -> x.decimals(false, 0));
        Check.due("an ANSWER", 0, () -> x.decimals(true, 3));
        x.put(0, false, 7, 0);
        Check.due("none, small", -1, () -> x.decimals(false, 0));
        x.put(0, false, 28, 0);
        Check.due("none, great", -1, () -> x.decimals(false, 0));
    }

    private static void testIsSame() {
        Nearplaces x = with(true, ONE, 0);
        x.keep(0, 0);
        Check.due("itself", true, () -> x.isSame(false, 0, false, 0));
        Check.due("its ANSWER", true, () -> x.isSame(false, 0, true, 0));
        Check.due("the ANSWER and it", true, () -> x.isSame(true, 0, false, 0));
        x.minus(0);
        Check.due("the other SIGN", false, () -> x.isSame(false, 0, true, 0));
        x.minus(1);
        Check.due("both ZEROS", false, () -> x.isSame(false, 1, false, 2));
        Check.due("ZEROS", true, () -> x.isSame(false, 3, false, 2));
    }

    private static void testOrder() {
        Nearplaces x = withTwo(ONE, 0, ONE, 1);
        x.keep(1, 0);
        Check.due("less", -1, () -> x.order(false, 0, false, 1));
        Check.due("greater", 1, () -> x.order(false, 1, false, 0));
        Check.due("less than an ANSWER", -1, () -> x.order(false, 0, true, 0));
        Check.due("an ANSWER, greater", 1, () -> x.order(true, 0, false, 0));
        Check.due("the same", 0, () -> x.order(true, 0, false, 1));
        x.minus(0);
        x.minus(1);
        Check.due("below 0: greater", 1, () -> x.order(false, 0, false, 1));
        Check.due("below 0: less", -1, () -> x.order(false, 1, false, 0));
        x.put(2, true, ZERO, 0);
        Check.due("just the first one has SIGN 1", -1, () -> x.order(false, 2, false, 3));
        Check.due("just the other one has SIGN 1", 1, () -> x.order(false, 3, false, 2));
        Check.due("both have", 0, () -> x.order(false, 2, false, 2));
        x.put(0, true, GREATEST, 0);
        x.put(1, false, GREATEST, 0);
        Check.due("far less", -1, () -> x.order(false, 0, false, 1));
        Check.due("far greater", 1, () -> x.order(false, 1, false, 0));
    }

    // ---- the whole

    private static void testHouse() {
        Nearplaces x = with(false, ONE, 0);
        x.putDigits(0, 0x3ff00000, 0);
        x.putParts(0, false, 1023, 0, 0);
        x.copy(0, 0);
        x.swap(0, 0);
        x.minus(0);
        x.take(0, 0);
        dueHouse(x, 7, 0, 0, 0);
        x.keep(0, 0);
        x.up(0, 0);
        x.down(0, 0);
        x.steps(0, 0, 0);
        x.towards(0, 0, 0);
        x.shift(0, 0, 0);
        x.unit(0, 0);
        x.unitByPower(0, 0);
        x.gap(0, true, 0);
        x.sum(0, 0, false, 0);
        x.error(0, 0, false, 0);
        x.middle(0, 0, 0);
        x.least(0, 0, 0);
        x.readBinary(false, 0, 0);
        x.readDecimal(false, 0, 0);
        dueHouse(x, 7, 15, 0, 0);
        x.knock();
        x.put(0, false, GREATEST, 1);
        dueHouse(x, 7, 15, 1, 1);
        for (int what : new int[] {-1, 4, Integer.MIN_VALUE, Integer.MAX_VALUE}) {
            Check.due("what " + what, ARGUMENT, () -> x.house(what));
        }
        x.digest();
        x.isSound();
        x.decimal(false, 0);
        dueHouse(x, 7, 15, 1, 1);
    }

    private static void testKnock() {
        Nearplaces x = new Nearplaces();
        for (int many = 1; many <= 5; many++) {
            Check.due("knock", many, x::knock);
        }
        dueHouse(x, 0, 0, 0, 5);
    }

    private static void testIsSound() {
        Nearplaces x = new Nearplaces();
        for (int knot = 0; knot < 32; knot++) {
            for (int offset = -2; offset <= 1; offset++) {
                x.put((knot * 4 + offset + 2) % 8, knot % 3 == 0, knot, offset);
                x.error(knot % 8, (knot + 1) % 8, offset % 2 == 0, knot % 8);
                Check.due("isSound", true, x::isSound);
            }
        }
    }

    private static void testDigest() {
        Nearplaces x = new Nearplaces();
        Model model = new Model();
        Check.due("digest of a new one", model.called("digest", new int[0], new boolean[0]), x::digest);
        long before = x.digest();
        Check.due("digest changes nothing", before, x::digest);
        x.knock();
        Check.due("digest with a knock", before + (31), x::digest);
        x.put(0, false, GREATEST, 1);
        Check.due("digest with a refusal", before + 31 + 31 * 31, x::digest);
    }

    // ---- wrong inputs of every method

    private static void testNoCells() {
        for (int bad : NO_CELLS) {
            for (int one = 0; one < 2; one++) {
                int good = one;
                Nearplaces x = with(false, ONE, 0);
                long before = x.digest();
                testNoArgumentCell(x, bad, good);
                testNoAnswerCell(x, bad, good);
                testNothingToAsk(x, bad, good);
                Check.due("digest after all", before, x::digest);
            }
        }
    }

    private static void testNoArgumentCell(Nearplaces x, int bad, int good) {
        Check.due("put", INDEX, () -> x.put(bad, false, ONE, 0));
        Check.due("put, knot", INDEX, () -> x.put(bad, false, 32, 512));
        Check.due("putDigits", INDEX, () -> x.putDigits(bad, 0, 0));
        Check.due("putDigits, none", INDEX, () -> x.putDigits(bad, -1, -1));
        Check.due("putParts", INDEX, () -> x.putParts(bad, false, 0, 0, 0));
        Check.due("putParts, exponent", INDEX, () -> x.putParts(bad, false, -1, -1, 0));
        Check.due("copy", INDEX, () -> x.copy(bad, good));
        Check.due("copy into", INDEX, () -> x.copy(good, bad));
        Check.due("swap", INDEX, () -> x.swap(bad, good));
        Check.due("swap other", INDEX, () -> x.swap(good, bad));
        Check.due("minus", INDEX, () -> x.minus(bad));
        Check.due("take", INDEX, () -> x.take(bad, good));
        Check.due("take into", INDEX, () -> x.take(good, bad));
    }

    private static void testNoAnswerCell(Nearplaces x, int bad, int good) {
        int[][] pairs = {{bad, good}, {good, bad}};
        for (int[] pair : pairs) {
            Check.due("keep", INDEX, () -> x.keep(pair[0], pair[1]));
            Check.due("up", INDEX, () -> x.up(pair[0], pair[1]));
            Check.due("down", INDEX, () -> x.down(pair[0], pair[1]));
            Check.due("steps", INDEX, () -> x.steps(pair[0], 0, pair[1]));
            Check.due("steps, many", INDEX, () -> x.steps(pair[0], 1024, pair[1]));
            Check.due("shift", INDEX, () -> x.shift(pair[0], 0, pair[1]));
            Check.due("shift, by", INDEX, () -> x.shift(pair[0], 128, pair[1]));
            Check.due("unit", INDEX, () -> x.unit(pair[0], pair[1]));
            Check.due("unitByPower", INDEX, () -> x.unitByPower(pair[0], pair[1]));
            Check.due("gap", INDEX, () -> x.gap(pair[0], true, pair[1]));
            Check.due("least", INDEX, () -> x.least(0, pair[0], pair[1]));
            Check.due("least, property", INDEX, () -> x.least(7, pair[0], pair[1]));
            Check.due("readBinary", INDEX, () -> x.readBinary(true, pair[0], pair[1]));
            Check.due("readDecimal", INDEX, () -> x.readDecimal(false, pair[0], pair[1]));
        }
        int[][] threes = {{bad, good, good}, {good, bad, good}, {good, good, bad}};
        for (int[] cells : threes) {
            Check.due("towards", INDEX, () -> x.towards(cells[0], cells[1], cells[2]));
            Check.due("sum", INDEX, () -> x.sum(cells[0], cells[1], true, cells[2]));
            Check.due("error", INDEX, () -> x.error(cells[0], cells[1], false, cells[2]));
            Check.due("middle", INDEX, () -> x.middle(cells[0], cells[1], cells[2]));
        }
    }

    private static void testNothingToAsk(Nearplaces x, int bad, int good) {
        Check.due("power", INDEX, () -> x.power(bad));
        Check.due("powerByUnit", INDEX, () -> x.powerByUnit(bad));
        Check.due("isEdge", INDEX, () -> x.isEdge(bad));
        Check.due("isUnitStep", INDEX, () -> x.isUnitStep(bad));
        Check.due("isNear", INDEX, () -> x.isNear(bad));
        int[][] pairs = {{bad, good}, {good, bad}};
        for (int[] pair : pairs) {
            Check.due("isWithin", INDEX, () -> x.isWithin(pair[0], pair[1]));
            Check.due("exact", INDEX, () -> x.exact(pair[0], pair[1], true));
            Check.due("holds", INDEX, () -> x.holds(pair[0], pair[1], false));
            Check.due("walk", INDEX, () -> x.walk(pair[0], pair[1]));
            Check.due("between", INDEX, () -> x.between(true, pair[0], false, pair[1]));
            Check.due("isSame", INDEX, () -> x.isSame(true, pair[0], true, pair[1]));
            Check.due("order", INDEX, () -> x.order(false, pair[0], true, pair[1]));
        }
        for (boolean isAnswer : new boolean[] {false, true}) {
            Check.due("window", INDEX, () -> x.window(isAnswer, bad));
            Check.due("offset", INDEX, () -> x.offset(isAnswer, bad));
            Check.due("upper", INDEX, () -> x.upper(isAnswer, bad));
            Check.due("lower", INDEX, () -> x.lower(isAnswer, bad));
            Check.due("parts", INDEX, () -> x.parts(isAnswer, bad));
            Check.due("place", INDEX, () -> x.place(isAnswer, bad));
            Check.due("binary", INDEX, () -> x.binary(isAnswer, bad));
            Check.due("decimal", INDEX, () -> x.decimal(isAnswer, bad));
            Check.due("decimals", INDEX, () -> x.decimals(isAnswer, bad));
        }
    }

    /** These go ahead of REFUSED, too: the argument is not NEAR, or there would be none. */
    private static void testOutOfBounds() {
        Nearplaces x = with(false, GREATEST, -3);
        x.put(1, false, GREATEST, 0);
        long before = x.digest();
        Check.due("put, knot", ARGUMENT, () -> x.put(0, false, 32, -1));
        Check.due("put, offset", ARGUMENT, () -> x.put(0, false, GREATEST, 512));
        Check.due("putParts, exponent", ARGUMENT, () -> x.putParts(0, false, 2047, 0, 5));
        Check.due("putParts, high", ARGUMENT, () -> x.putParts(0, false, 7, 1048576, 5));
        Check.due("steps", ARGUMENT, () -> x.steps(1, 1024, 0));
        Check.due("shift", ARGUMENT, () -> x.shift(0, 128, 0));
        Check.due("least", ARGUMENT, () -> x.least(7, 0, 0));
        Check.due("least", ARGUMENT, () -> x.least(-1, 0, 0));
        Check.due("house", ARGUMENT, () -> x.house(4));
        Check.due("digest after all", before, x::digest);
    }
}

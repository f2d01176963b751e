/** Promises 2 to 45: what each method throws, at the bounds and just out of them. */
final class ThrowBoundaryTests {
    /** Promise by promise; c stands for a cell. */
    private static final String[] WITH_CELLS = {
        "2: put(c, false, 0, 0)", "3: putDigits(c, 0, 0)", "4: putParts(c, false, 0, 0, 0)",
        "5: copy(c, c)", "6: swap(c, c)", "7: minus(c)", "8: take(c, c)", "9: keep(c, c)",
        "10: up(c, c)", "11: down(c, c)", "12: steps(c, 0, c)", "13: towards(c, c, c)",
        "14: shift(c, 0, c)", "15: unit(c, c)", "16: unitByPower(c, c)", "17: gap(c, true, c)",
        "18: sum(c, c, true, c)", "19: error(c, c, false, c)", "20: middle(c, c, c)",
        "21: least(0, c, c)", "22: readBinary(false, c, c)", "22: readBinary(true, c, c)",
        "23: readDecimal(false, c, c)", "23: readDecimal(true, c, c)", "24: power(c)",
        "25: powerByUnit(c)", "26: isEdge(c)", "27: isUnitStep(c)", "28: isNear(c)",
        "29: isWithin(c, c)", "30: exact(c, c, false)", "31: holds(c, c, true)", "32: walk(c, c)",
        "33: window(false, c)", "33: window(true, c)", "34: offset(false, c)", "34: offset(true, c)",
        "35: upper(false, c)", "35: upper(true, c)", "36: lower(false, c)", "36: lower(true, c)",
        "37: parts(false, c)", "37: parts(true, c)", "38: place(false, c)", "38: place(true, c)",
        "39: between(false, c, true, c)", "39: between(true, c, false, c)",
        "40: binary(false, c)", "40: binary(true, c)", "41: decimal(false, c)", "41: decimal(true, c)",
        "42: decimals(false, c)", "42: decimals(true, c)",
        "43: isSame(false, c, true, c)", "43: isSame(true, c, false, c)",
        "44: order(false, c, true, c)", "44: order(true, c, false, c)",
    };
    /** Promise by promise; v stands for what has bounds, which follow. */
    private static final String[] WITH_BOUNDS = {
        "2: put(0, false, v, 0) 0 31", "2: put(0, false, 16, v) -512 511",
        "4: putParts(0, false, v, 0, 0) 0 2046", "4: putParts(0, false, 1023, v, 0) 0 1048575",
        "12: steps(0, v, 0) -1023 1023", "14: shift(0, v, 0) -128 127", "21: least(v, 0, 0) 0 6",
        "45: house(v) 0 3",
    };

    private ThrowBoundaryTests() {
    }

    static void run() {
        for (String told : WITH_CELLS) {
            String call = told.substring(told.indexOf(' ') + 1);
            Check.test("promise " + told + " throws IndexOutOfBoundsException if no such cell", () -> {
                for (int i = call.indexOf('c', call.indexOf('(')); i >= 0; i = call.indexOf('c', i + 1)) {
                    testCell(call, i);
                }
            });
        }
        for (String told : WITH_BOUNDS) {
            String[] parts = told.substring(told.indexOf(' ') + 1).split("\\) ");
            String[] bounds = parts[1].split(" ");
            String name = "promise " + told.substring(0, told.indexOf(')')) + ") throws ";
            String range = bounds[0] + " to " + bounds[1];
            Check.test(name + "IllegalArgumentException if v is not " + range, () -> {
                testBounds(parts[0] + ")", Integer.parseInt(bounds[0]), Integer.parseInt(bounds[1]));
            });
        }
    }

    private static String filled(String call, int at, int cell, int others) {
        String before = call.substring(call.indexOf('('), at).replace("c", "" + others);
        String behind = call.substring(at + 1).replace("c", "" + others);
        return call.substring(0, call.indexOf('(')) + before + cell + behind;
    }

    private static void testCell(String call, int at) {
        for (int others : new int[] {0, 7}) {
            Run run = new Run();
            for (int cell : new int[] {0, 7}) {
                String told = filled(call, at, cell, others);
                Check.due(told + " throws", false, () -> run.answer(told).startsWith("throws"));
            }
            String before = run.state();
            for (int cell : new int[] {-1, 8, 2147483647, -2147483648}) {
                run.due(filled(call, at, cell, others), Check.INDEX);
            }
            Check.due("all behind that", before, () -> run.state());
        }
    }

    private static void testBounds(String call, int least, int greatest) {
        Run run = new Run();
        run.due("put(0, false, 16, 0)", "1");
        for (int value : new int[] {least, greatest}) {
            String told = call.replace("v", "" + value);
            Check.due(told + " throws", false, () -> run.answer(told).startsWith("throws"));
        }
        String before = run.state();
        for (int value : new int[] {least - 1, greatest + 1, 2147483647, -2147483648}) {
            run.due(call.replace("v", "" + value), Check.ARGUMENT);
        }
        Check.due("all behind that", before, () -> run.state());
    }
}

import java.math.BigInteger;

/** Promises 45 to 48, and the 512 calls that an object is used for. */
final class WholeBoundaryTests {
    private static final int MOST_CALLS = 512;

    private WholeBoundaryTests() {
    }

    static void run() {
        testHouse();
        testKnock();
        testIsSound();
        testDigest();
        testMostCalls();
    }

    private static void testHouse() {
        Run.test("promise 45: house counts ACTS on ARGUMENT cells, also if all stayed", """
                put(0, false, 0, 0) = 0
                house(0) = 1
                putDigits(0, 0, 0) = 0
                house(0) = 2
                putParts(0, false, 0, 0, 0) = 0
                house(0) = 3
                copy(0, 0) = 0
                house(0) = 4
                swap(0, 0) = 0
                house(0) = 5
                minus(0) = 1
                house(0) = 6
                take(1, 1) = 0
                house(0) = 7
                house(1) = 0
                house(2) = 0
                """);
        Run.test("promise 45: house counts ACTS on ANSWER cells, also if all stayed", """
                keep(0, 0) = 0
                house(1) = 1
                up(0, 0) = 1
                house(1) = 2
                down(0, 0) = 1
                house(1) = 3
                steps(0, 0, 1) = 0
                house(1) = 4
                towards(0, 0, 1) = 0
                house(1) = 5
                shift(0, 127, 1) = 0
                house(1) = 6
                unit(0, 0) = 1
                house(1) = 7
                unitByPower(0, 0) = 0
                house(1) = 8
                gap(0, false, 0) = 0
                house(1) = 9
                sum(0, 0, true, 1) = 0
                house(1) = 10
                error(0, 0, true, 1) = 0
                house(1) = 11
                middle(0, 0, 1) = 0
                house(1) = 12
                least(0, 0, 1) = 63
                house(1) = 13
                readBinary(false, 0, 1) = 0
                house(1) = 14
                readDecimal(true, 1, 1) = 0
                house(1) = 15
                house(0) = 0
                house(2) = 0
                """);
        Run.test("promise 45: house counts REFUSED ones as such alone", """
                put(0, false, 31, 1) = -9
                house(2) = 1
                putDigits(0, -1, -1) = -9
                house(2) = 2
                putParts(0, false, 3, 0, 0) = -9
                house(2) = 3
                put(0, false, 31, 0) = 1
                up(0, 0) = -9
                house(2) = 4
                steps(0, 1, 0) = -9
                house(2) = 5
                shift(0, 1, 0) = -9
                house(2) = 6
                gap(0, true, 0) = -9
                house(2) = 7
                sum(0, 0, false, 0) = -9
                house(2) = 8
                error(0, 0, false, 0) = -9
                house(2) = 9
                least(3, 0, 0) = -9
                house(2) = 10
                least(6, 0, 0) = -9
                house(2) = 11
                readDecimal(false, 0, 0) = -9
                house(2) = 12
                exact(0, 0, false) = -9
                house(2) = 13
                holds(0, 0, false) = -9
                house(2) = 14
                walk(0, 1) = -9
                house(2) = 15
                minus(0) = 1
                down(0, 0) = -9
                house(2) = 16
                put(0, false, 16, 2) = 1
                towards(0, 1, 0) = -9
                house(2) = 17
                middle(1, 0, 0) = -9
                house(2) = 18
                up(0, 0) = 1
                put(0, false, 16, 511) = 1
                up(0, 0) = 1
                take(0, 0) = -9
                house(2) = 19
                house(0) = 4
                house(1) = 2
                house(3) = 0
                """);
        Run.test("promise 45: house does not count what is asked, nor what throws", """
                power(0) = -1023
                powerByUnit(0) = -1022
                isEdge(0) = false
                isUnitStep(0) = true
                isNear(0) = true
                isWithin(0, 1) = true
                exact(0, 1, true) = 1
                holds(0, 1, true) = 1
                walk(0, 1) = 0
                window(true, 0) = 0
                offset(true, 0) = 0
                binary(false, 0) = 0*2^0
                decimal(false, 0) = 0
                order(false, 0, true, 0) = 0
                isSound() = true
                put(8, false, 0, 0) = throws.IndexOutOfBoundsException
                shift(0, 128, 0) = throws.IllegalArgumentException
                house(4) = throws.IllegalArgumentException
                house(0) = 0
                house(1) = 0
                house(2) = 0
                house(3) = 0
                """);
        Run.test("promise 45: house of 0 to 3, of none else", """
                knock() = 1
                house(0) = 0
                house(3) = 1
                house(4) = throws.IllegalArgumentException
                house(-1) = throws.IllegalArgumentException
                house(2147483647) = throws.IllegalArgumentException
                house(-2147483648) = throws.IllegalArgumentException
                """);
    }

    private static void testKnock() {
        Run.test("promise 46: knock tells how often one knocked, with this: 1 at first", """
                house(3) = 0
                knock() = 1
                knock() = 2
                house(3) = 2
                put(0, false, 31, 1) = -9
                knock() = 3
                house(0) = 0
                house(1) = 0
                house(2) = 1
                house(3) = 3
                """);
    }

    private static void testIsSound() {
        Run.test("promise 47: isSound with both ZEROS, TOP, -TOP, and the ends of EXPONENT 0", """
                isSound() = true
                put(0, true, 0, 0) = 1
                put(1, true, 0, 1) = 1
                put(2, false, 31, 0) = 1
                put(3, true, 31, 0) = 1
                put(4, false, 2, -1) = 1
                put(5, true, 2, 0) = 1
                put(6, true, 3, 0) = 1
                isSound() = true
                keep(2, 2) = 1
                keep(3, 3) = 1
                keep(0, 0) = 1
                keep(1, 1) = 1
                keep(4, 4) = 1
                isSound() = true
                """);
        Run.test("promise 47: isSound with ADDABLE ones far apart, at just twice, and half a step", """
                put(0, false, 30, -1) = 1
                put(1, true, 0, 1) = 1
                put(2, false, 16, 0) = 1
                put(3, false, 9, 0) = 1
                put(4, true, 16, 1) = 1
                put(5, false, 18, 0) = 1
                put(6, false, 29, 0) = 1
                put(7, true, 8, 1) = 1
                isSound() = true
                sum(0, 0, false, 0) = 1
                error(2, 3, false, 1) = 1
                error(0, 1, false, 2) = 1
                isSound() = true
                """);
        Run.test("promise 47: isSound with ANSWERS out of the SET, and at the ends of DECIMALS", """
                put(0, false, 16, 511) = 1
                up(0, 0) = 1
                put(1, false, 6, -1) = 1
                shift(1, 86, 1) = 1
                put(1, false, 5, -1) = 1
                shift(1, 86, 2) = 1
                put(0, false, 22, -2) = 1
                put(1, true, 28, 1) = 1
                middle(0, 1, 3) = 1
                minus(1) = 0
                middle(0, 1, 4) = 1
                put(0, false, 22, 0) = 1
                middle(0, 1, 5) = 1
                decimals(true, 1) = 200
                decimals(true, 2) = -1
                decimals(true, 4) = 0
                decimals(true, 5) = -1
                isSound() = true
                """);
    }

    private static void testDigest() {
        Check.test("promise 48: digest wraps around as a 64-bit integer", () -> {
            Run run = new Run();
            dueDigest(run);
            run.due("""
                    put(0, true, 31, 0) = 1
                    put(1, false, 31, -3) = 1
                    put(2, true, 0, 0) = 1
                    put(3, false, 12, 1) = 1
                    put(4, false, 13, -512) = 1
                    put(5, true, 28, 511) = 1
                    put(6, false, 18, 0) = 1
                    put(7, false, 20, 0) = 1
                    """);
            dueDigest(run);
            run.due("""
                    keep(0, 7) = 1
                    up(5, 6) = 1
                    up(3, 5) = 1
                    keep(2, 4) = 1
                    sum(3, 6, true, 3) = 1
                    least(6, 3, 2) = 64
                    up(0, 1) = 1
                    down(7, 0) = 1
                    put(0, false, 31, 1) = -9
                    knock() = 1
                    knock() = 2
                    """);
            dueDigest(run);
        });
        Check.test("promise 48: digest of each cell by itself", () -> {
            for (int cell = 0; cell < 8; cell++) {
                Run run = new Run();
                run.due("put(" + cell + ", true, 0, 0)", "1");
                dueDigest(run);
                run.due("put(" + cell + ", true, 12, -1)", "1");
                dueDigest(run);
                run.due("down(" + cell + ", " + (7 - cell) + ")", "1");
                dueDigest(run);
                run.due("put(" + cell + ", false, 16, 511)", "1");
                run.due("up(" + cell + ", " + cell + ")", "1");
                dueDigest(run);
            }
        });
        Check.test("promise 48: digest is that of its calls, and changes nothing", () -> {
            Run run = new Run();
            String before = run.state();
            String first = run.answer("digest()");
            run.due("digest()", first);
            Check.due("all behind that", before, () -> run.state());
            run.due("knock()", "1");
            long knocked = Long.parseLong(first) + 31;
            run.due("digest()", "" + knocked);
            run.due("put(0, false, 31, 1)", "-9");
            run.due("digest()", "" + (knocked + 31 * 31));
            run.due("keep(0, 0)", "0");
            run.due("digest()", "" + (knocked + 31 * 31 + 31 * 31 * 31));
            run.due("put(0, false, 0, 0)", "0");
            run.due("digest()", "" + (knocked + 31 * 31 + 31 * 31 * 31 + 31 * 31 * 31 * 31));
        });
    }

    /** By whole numbers of any length, from what the other calls tell; wrapped around at the end. */
    private static void dueDigest(Run run) {
        StringBuilder calls = new StringBuilder();
        for (int cell = 0; cell < 8; cell++) {
            for (String name : new String[] {"upper", "lower", "window", "offset"}) {
                calls.append(name).append("(false, ").append(cell).append(");");
            }
            calls.append("power(").append(cell).append(");decimals(false, ").append(cell).append(");");
        }
        for (int cell = 0; cell < 8; cell++) {
            for (String name : new String[] {"upper", "lower", "window", "offset", "decimals"}) {
                calls.append(name).append("(true, ").append(cell).append(");");
            }
        }
        for (int one = 0; one < 8; one++) {
            for (int other = one + 1; other < 8; other++) {
                calls.append("order(false, ").append(one).append(", false, ").append(other).append(");");
                calls.append("isWithin(").append(one).append(", ").append(other).append(");");
            }
        }
        calls.append("house(0);house(1);house(2);house(3);isSound()");
        BigInteger d = BigInteger.valueOf(7924);
        for (String call : calls.toString().split(";")) {
            String told = run.answer(call).replace("true", "1").replace("false", "0");
            d = d.multiply(BigInteger.valueOf(31)).add(new BigInteger(told));
        }
        boolean isLonger = d.bitLength() > 64;
        Check.due("d without wrapping around is longer", true, () -> isLonger);
        run.due("digest()", "" + d.longValue());
    }

    private static void testMostCalls() {
        Check.test("what it is: an object is used for 512 calls, the last one is answered, too", () -> {
            Run knocked = new Run();
            for (int call = 1; call <= MOST_CALLS; call++) {
                knocked.due("knock()", "" + call);
            }
            Run stepped = new Run();
            stepped.due("put(0, true, 31, -512)", "1");
            for (int call = 2; call < MOST_CALLS; call++) {
                stepped.due("up(0, " + call % 8 + ")", call < 10 ? "1" : "0");
            }
            stepped.due("house(1)", "510");
        });
        Check.test("what it is: the dearest calls, 512 times on one object", () -> {
            for (String call : new String[] {"digest()", "isSound()", "decimal(true, 0)", "least(3, 0, 1)"}) {
                Run run = new Run();
                run.due("put(0, false, 6, -1)", "1");
                run.due("shift(0, 86, 0)", "1");
                run.answer(call);
                String first = call.startsWith("least") ? "64" : run.answer(call);
                for (int i = 4; i < MOST_CALLS; i++) {
                    run.due(call, first);
                }
            }
        });
    }
}

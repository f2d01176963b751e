import java.lang.reflect.InvocationTargetException;
import java.lang.reflect.Method;
import java.lang.reflect.Modifier;
import java.util.ArrayList;
import java.util.Arrays;
import java.util.Comparator;
import java.util.HashMap;
import java.util.List;
import java.util.Map;

/** Long runs of told calls on the class and on the model: every answer is compared. */
final class ModelTests {
    private static final int RUNS = 1500;
    private static final int CALLS = 480;
    private static final String[] CALL_KINDS = {
        // c a cell, k a knot, o an offset, m steps, b a shift, p a property, w what of house()
        "put cko", "putDigits d", "putParts d", "copy cc", "swap cc", "minus c", "take cc", "keep cc",
        "up cc", "down cc", "steps cmc", "towards ccc", "shift cbc", "unit cc", "unitByPower cc",
        "gap cc", "sum ccc", "error ccc", "middle ccc", "least pcc", "readBinary cc", "readDecimal cc",
        "power c", "powerByUnit c", "isEdge c", "isUnitStep c", "isNear c", "isWithin cc", "exact cc",
        "holds cc", "walk cc", "window c", "offset c", "upper c", "lower c", "parts c", "place c",
        "between cc", "binary c", "decimal c", "decimals c", "isSame cc", "order cc", "house w",
        "knock -", "isSound -", "digest -",
    };

    private static final Map<String, Method> METHODS = new HashMap<>();
    private static final Map<String, Integer> ASKED = new HashMap<>();
    private static final double[] NEAR_SIZES = nearSizes();
    private static long state = 20261119;

    private ModelTests() {
    }

    static void run() {
        for (Method method : Nearplaces.class.getDeclaredMethods()) {
            if (Modifier.isPublic(method.getModifiers())) {
                METHODS.put(method.getName(), method);
            }
        }
        Check.test("promises 1 to 48: long runs answer as the model does", () -> testRuns(false));
        Check.test("promises 1 to 48: runs with cells alone that there are", () -> testRuns(true));
        Check.test("the runs ask for every method", () -> {
            for (String name : METHODS.keySet()) {
                Check.due(name + " is asked", true, () -> ASKED.getOrDefault(name, 0) > 100);
            }
        });
        Check.test("what each NEAR argument answers alone", ModelTests::testEachNear);
        Check.test("SUM, ERROR and more of all pairs of NEAR arguments", ModelTests::testEachPair);
    }

    // ---- told numbers: the same ones in every run

    private static int told(int bound) {
        state = state * 6364136223846793005L + 1442695040888963407L;
        return (int) ((state >>> 33) % bound);
    }

    private static boolean isToldOften(int percent) {
        return told(100) < percent;
    }

    private static int toldOf(char kind, boolean isGood) {
        boolean isRare = !isGood && isToldOften(2);
        switch (kind) {
            case 'c': return isRare ? told(5) * 5 - 12 : told(8);
            case 'k': return isRare ? told(2) * 33 - 1 : told(32);
            case 'o': return isRare ? told(2) * 1025 - 513 : toldOffset();
            case 'm': return isRare ? told(2) * 2048 - 1024 : told(3) == 0 ? told(2047) - 1023 : told(9) - 4;
            case 'b': return isRare ? told(2) * 257 - 129 : told(3) == 0 ? told(256) - 128 : told(130) - 65;
            case 'p': return isRare ? told(2) * 8 - 1 : told(7);
            default: return isRare ? told(2) * 5 - 1 : told(4);
        }
    }

    private static int toldOffset() {
        int way = told(10);
        return way < 6 ? told(4) - 2 : way < 7 ? told(2) * 1023 - 512 : told(1024) - 512;
    }

    private static int[] toldArguments(String name, String kinds, boolean isGood) {
        if (kinds.equals("d")) {
            return toldDigits(name, isGood);
        }
        int[] numbers = new int[kinds.length()];
        for (int i = 0; i < numbers.length; i++) {
            numbers[i] = toldOf(kinds.charAt(i), isGood);
        }
        return numbers;
    }

    private static int[] toldDigits(String name, boolean isGood) {
        long digits = Model.bits(NEAR_SIZES[told(NEAR_SIZES.length)]) + told(1400) - 700;
        digits = isToldOften(50) ? digits : digits | 1L << 63;
        int upper = (int) (digits >> 32);
        int cell = toldOf('c', isGood);
        if (name.equals("putDigits")) {
            return new int[] {cell, upper, (int) digits};
        }
        int high = !isGood && isToldOften(2) ? -1 : upper & 1048575;
        return new int[] {cell, upper >>> 20 & 2047, high, (int) digits};
    }

    // ---- calls

    private static Object answered(Nearplaces places, String name, int[] n, boolean[] is) {
        Method method = METHODS.get(name);
        Class<?>[] types = method.getParameterTypes();
        Object[] given = new Object[types.length];
        int numbers = 0;
        int truths = 0;
        for (int i = 0; i < types.length; i++) {
            given[i] = types[i] == int.class ? (Object) n[numbers++] : (Object) is[truths++];
        }
        try {
            return method.invoke(places, given);
        } catch (InvocationTargetException thrown) {
            return "throws." + thrown.getCause().getClass().getSimpleName();
        } catch (IllegalAccessException thrown) {
            throw new IllegalStateException(thrown);
        }
    }

    private static void compare(Nearplaces places, Model model, String name, int[] n, boolean... told) {
        ASKED.merge(name, 1, Integer::sum);
        boolean[] is = Arrays.copyOf(told, 2);
        Object due = model.called(name, n, is);
        String call = name + Arrays.toString(n) + Arrays.toString(is);
        Check.due(call, due, () -> answered(places, name, n, is));
    }

    private static void testRuns(boolean isGood) {
        for (int run = 0; run < RUNS; run++) {
            Nearplaces places = new Nearplaces();
            Model model = new Model();
            for (int call = 0; call < CALLS; call++) {
                String kind = CALL_KINDS[isToldOften(25) ? told(3) : told(CALL_KINDS.length)];
                String[] parts = kind.split(" ");
                String kinds = parts[1].equals("-") ? "" : parts[1];
                int[] n = toldArguments(parts[0], kinds, isGood);
                compare(places, model, parts[0], n, isToldOften(50), isToldOften(50));
            }
            compareCells(places, model);
        }
    }

    private static void compareCells(Nearplaces places, Model model) {
        for (int cell = 0; cell < 8; cell++) {
            compare(places, model, "parts", new int[] {cell}, false);
            compare(places, model, "parts", new int[] {cell}, true);
        }
        for (int what = 0; what < 4; what++) {
            compare(places, model, "house", new int[] {what});
        }
        compare(places, model, "digest", new int[0]);
    }

    // ---- all NEAR ones

    private static double[] nearSizes() {
        List<Double> sizes = new ArrayList<>();
        Model model = new Model();
        for (int knot = 0; knot < 32; knot++) {
            for (int offset = -2; offset <= 1; offset++) {
                Object got = model.called("put", new int[] {0, knot, offset}, new boolean[] {false});
                if (!got.equals(-9)) {
                    sizes.add(model.arguments[0]);
                }
            }
        }
        sizes.sort(Comparator.naturalOrder());
        double[] told = new double[sizes.size()];
        for (int i = 0; i < told.length; i++) {
            told[i] = sizes.get(i);
        }
        return told;
    }

    private static void bring(Nearplaces places, Model model, int cell, double x) {
        long digits = Model.bits(x);
        compare(places, model, "putDigits", new int[] {cell, (int) (digits >> 32), (int) digits});
    }

    private static void testEachNear() {
        for (double size : NEAR_SIZES) {
            for (double x : new double[] {size, -size}) {
                Nearplaces places = new Nearplaces();
                Model model = new Model();
                bring(places, model, 0, x);
                askAlone(places, model);
                for (int by = -128; by < 128; by++) {
                    compare(places, model, "shift", new int[] {0, by, 0});
                    compare(places, model, "parts", new int[] {0}, true);
                    compare(places, model, "readDecimal", new int[] {0, 1}, true);
                    compare(places, model, "readBinary", new int[] {0, 2}, true);
                    compare(places, model, "decimal", new int[] {1}, true);
                    compare(places, model, "parts", new int[] {2}, true);
                }
            }
        }
    }

    private static void askAlone(Nearplaces places, Model model) {
        for (String name : new String[] {"up", "down", "unit", "unitByPower", "keep"}) {
            compare(places, model, name, new int[] {0, 0});
            compare(places, model, "parts", new int[] {0}, true);
            compare(places, model, "binary", new int[] {0}, true);
        }
        for (String name : new String[] {"power", "powerByUnit", "isEdge", "isUnitStep", "isNear"}) {
            compare(places, model, name, new int[] {0});
        }
        for (boolean isUp : new boolean[] {false, true}) {
            compare(places, model, "gap", new int[] {0, 0}, isUp);
            compare(places, model, "parts", new int[] {0}, true);
        }
        for (int property = 0; property < 7; property++) {
            compare(places, model, "least", new int[] {property, 0, property});
            compare(places, model, "parts", new int[] {property}, true);
        }
    }

    private static void testEachPair() {
        Nearplaces places = new Nearplaces();
        Model model = new Model();
        for (double first : NEAR_SIZES) {
            for (double second : NEAR_SIZES) {
                bring(places, model, 0, first);
                bring(places, model, 1, second);
                askPair(places, model, 0, 1, false);
                askPair(places, model, 1, 0, true);
                compare(places, model, "minus", new int[] {1});
                askPair(places, model, 0, 1, false);
            }
        }
    }

    private static void askPair(Nearplaces places, Model model, int one, int other, boolean isMinus) {
        compare(places, model, "sum", new int[] {one, other, 0}, isMinus);
        compare(places, model, "parts", new int[] {0}, true);
        compare(places, model, "error", new int[] {one, other, 1}, isMinus);
        compare(places, model, "parts", new int[] {1}, true);
        compare(places, model, "exact", new int[] {one, other}, isMinus);
        compare(places, model, "holds", new int[] {one, other}, isMinus);
        compare(places, model, "isWithin", new int[] {one, other});
        compare(places, model, "towards", new int[] {one, other, 2});
        compare(places, model, "parts", new int[] {2}, true);
        compare(places, model, "middle", new int[] {one, other, 3});
        compare(places, model, "parts", new int[] {3}, true);
        compare(places, model, "walk", new int[] {one, other});
        compare(places, model, "order", new int[] {one, other}, false, false);
        compare(places, model, "between", new int[] {one, other}, false, false);
    }
}

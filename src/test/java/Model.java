import java.math.BigDecimal;
import java.math.BigInteger;

/**
 * The document once more, by the doubles and the big numbers of the Java library, which the class
 * itself does not use. It holds numbers as doubles.
 */
final class Model {
    private static final String KNOTS =
            "0:0, 0:2251799813685248, 1:0, 2:0, 52:2251799813685248, 53:0, 54:0, 512:1501199875790165, "
            + "969:0, 970:0, 971:0, 996:2702159776422298, 1019:2702159776422298, 1021:1501199875790165, "
            + "1022:0, 1022:3002399751580330, 1023:0, 1023:2251799813685248, 1024:0, 1024:2570638124657944, "
            + "1025:0, 1026:1125899906842624, 1049:2251799813685249, 1074:0, 1075:0, 1076:0, "
            + "1076:1501199875790165, 1096:123456789012345, 1500:2702159776422298, 2045:0, 2046:0, "
            + "2046:4503599627370495";
    static final long TOP = Double.doubleToRawLongBits(Double.MAX_VALUE);
    private static final long[] POINTS = points();

    final double[] arguments = new double[8];
    final double[] answers = new double[8];
    private final int[] counts = new int[4];

    private static long[] points() {
        String[] told = KNOTS.split(", ");
        long[] points = new long[told.length];
        for (int i = 0; i < told.length; i++) {
            String[] pair = told[i].split(":");
            points[i] = (Long.parseLong(pair[0]) << 52) + Long.parseLong(pair[1]);
        }
        return points;
    }

    // ---- one number

    static long bits(double x) {
        return Double.doubleToRawLongBits(x);
    }

    static long point(double x) {
        return bits(Math.abs(x));
    }

    static boolean isBelow(double x) {
        return bits(x) < 0;
    }

    static long place(double x) {
        return isBelow(x) ? -point(x) : point(x);
    }

    static double at(long place) {
        return place < 0 ? -Double.longBitsToDouble(-place) : Double.longBitsToDouble(place);
    }

    static boolean isSame(double one, double other) {
        return bits(one) == bits(other);
    }

    static int window(double x) {
        for (int knot = 0; knot < POINTS.length; knot++) {
            long offset = point(x) - POINTS[knot];
            if (Double.isFinite(x) && offset >= -512 && offset <= 511) {
                return knot;
            }
        }
        return -1;
    }

    static int offset(double x) {
        return window(x) < 0 ? -9999 : (int) (point(x) - POINTS[window(x)]);
    }

    static boolean isNear(double x) {
        return window(x) >= 0 && offset(x) >= -2 && offset(x) <= 1;
    }

    static BigDecimal value(double x) {
        return new BigDecimal(x);
    }

    /** WHOLE, as long as it is not 0: the size in units of 2^-1074 without the zeros behind. */
    private static BigInteger leastUnits(double x) {
        BigInteger fraction = BigInteger.valueOf(bits(x) & 0xfffffffffffffL);
        int exponent = Math.getExponent(x);
        return exponent < -1022 ? fraction : fraction.setBit(52).shiftLeft(exponent + 1022);
    }

    static int raise(double x) {
        return x == 0 ? 0 : leastUnits(x).getLowestSetBit() - 1074;
    }

    static BigInteger whole(double x) {
        return x == 0 ? BigInteger.ZERO : leastUnits(x).shiftRight(raise(x) + 1074);
    }

    static String binary(double x) {
        return (isBelow(x) ? "-" : "") + whole(x) + "*2^" + raise(x);
    }

    static boolean hasDecimal(double x) {
        return Math.abs(raise(x)) <= 200;
    }

    static String decimal(double x) {
        if (!hasDecimal(x)) {
            return "";
        }
        return (isBelow(x) ? "-" : "") + value(Math.abs(x)).toPlainString();
    }

    static int decimals(double x) {
        return hasDecimal(x) ? Math.max(0, -raise(x)) : -1;
    }

    static boolean isWithin(double one, double other) {
        BigDecimal two = BigDecimal.valueOf(2);
        BigDecimal first = value(Math.abs(one));
        BigDecimal second = value(Math.abs(other));
        return isBelow(one) == isBelow(other)
                && first.compareTo(second.multiply(two)) <= 0
                && second.compareTo(first.multiply(two)) <= 0;
    }

    static int order(double one, double other) {
        return Double.compare(one, other);
    }

    static double lost(double one, double other) {
        BigDecimal rest = value(one).add(value(other)).subtract(value(one + other));
        double error = rest.doubleValue();
        return error == 0 ? 0.0 : error;
    }

    static boolean has(int property, double n, double a) {
        switch (property) {
            case 0: return n >= a;
            case 1: return n >= 0 && Math.ulp(n) >= Math.ulp(a);
            case 2: return n >= 0 && Math.getExponent(n) >= Math.getExponent(a);
            case 3: return a + n > a;
            case 4: return n * 2 >= a;
            case 5: return Math.nextUp(n) >= a;
            default: return n >= 0 && Math.ulp(n) >= a;
        }
    }

    static int raiseByShift(int by) {
        return by < -64 ? (by + 64) * 33 - 64 : by > 63 ? (by - 63) * 33 + 63 : by;
    }

    // ---- calls, each told by its name and its arguments

    Object called(String name, int[] n, boolean[] is) {
        switch (name) {
            case "put": return put(n[0], is[0], n[1], n[2]);
            case "putDigits": return putDigits(n[0], n[1], n[2]);
            case "putParts": return putParts(n[0], is[0], n[1], n[2], n[3]);
            case "copy": return need(n[0], n[1]) ? INDEX : bringArgument(n[1], arguments[n[0]]);
            case "swap": return swap(n[0], n[1]);
            case "minus": return minus(n[0]);
            case "take": return need(n[0], n[1]) ? INDEX : bringArgument(n[1], answers[n[0]]);
            case "keep": return need(n[0], n[1]) ? INDEX : bring(n[1], arguments[n[0]]);
            case "up": return need(n[0], n[1]) ? INDEX : bring(n[1], Math.nextUp(arguments[n[0]]));
            case "down": return need(n[0], n[1]) ? INDEX : bring(n[1], Math.nextDown(arguments[n[0]]));
            case "steps": return steps(n[0], n[1], n[2]);
            case "towards": return towards(n[0], n[1], n[2]);
            case "shift": return shift(n[0], n[1], n[2]);
            case "unit":
            case "unitByPower": return need(n[0], n[1]) ? INDEX : bring(n[1], Math.ulp(arguments[n[0]]));
            case "gap": return gap(n[0], is[0], n[1]);
            case "sum": return sum(n[0], n[1], is[0], n[2], false);
            case "error": return sum(n[0], n[1], is[0], n[2], true);
            case "middle": return middle(n[0], n[1], n[2]);
            case "least": return least(n[0], n[1], n[2]);
            case "readBinary": return need(n[0], n[1]) ? INDEX : bring(n[1], of(is[0], n[0]));
            case "readDecimal": return readDecimal(is[0], n[0], n[1]);
            default: return asked(name, n, is);
        }
    }

    private static final String INDEX = Check.INDEX;
    private static final String ARGUMENT = Check.ARGUMENT;

    private Object asked(String name, int[] n, boolean[] is) {
        boolean isOfOne = !name.equals("isWithin") && !name.equals("exact") && !name.equals("holds")
                && !name.equals("walk") && !name.equals("between") && !name.equals("isSame")
                && !name.equals("order");
        if (name.equals("house")) {
            return n[0] < 0 || n[0] > 3 ? ARGUMENT : (Object) counts[n[0]];
        }
        if (name.equals("knock")) {
            return ++counts[3];
        }
        if (name.equals("isSound")) {
            return true;
        }
        if (name.equals("digest")) {
            return digest();
        }
        if (need(n[0], isOfOne ? 0 : n[1])) {
            return INDEX;
        }
        return isOfOne ? askedOfOne(name, n[0], is) : askedOfTwo(name, n[0], n[1], is);
    }

    private Object askedOfOne(String name, int cell, boolean[] is) {
        double a = arguments[cell];
        double x = of(is[0], cell);
        switch (name) {
            case "power": return Math.getExponent(a);
            case "powerByUnit": return Math.max(Math.getExponent(a), -1022);
            case "isEdge": return Math.abs(a) - Math.nextDown(Math.abs(a)) != Math.ulp(a);
            case "isUnitStep": return true;
            case "isNear": return isNear(a);
            case "window": return window(x);
            case "offset": return offset(x);
            case "upper": return (int) (bits(x) >> 32);
            case "lower": return (int) bits(x);
            case "parts": return parts(x);
            case "place": return "" + place(x);
            case "binary": return binary(x);
            case "decimal": return decimal(x);
            case "decimals": return decimals(x);
            default: throw new IllegalStateException(name);
        }
    }

    private static String parts(double x) {
        long exponent = Math.getExponent(x) + 1023;
        return (isBelow(x) ? 1 : 0) + " " + exponent + " " + (point(x) - (exponent << 52));
    }

    private Object askedOfTwo(String name, int one, int other, boolean[] is) {
        double a = arguments[one];
        double b = arguments[other];
        double x = of(is[0], one);
        double y = of(is[1], other);
        BigInteger steps = BigInteger.valueOf(place(y)).subtract(BigInteger.valueOf(place(x)));
        BigInteger way = BigInteger.valueOf(place(b)).subtract(BigInteger.valueOf(place(a))).abs();
        switch (name) {
            case "isWithin": return isWithin(a, b);
            case "exact": return isAddable(a, b) ? (Object) (lost(a, is[0] ? -b : b) == 0 ? 1 : 0) : refuse();
            case "holds": return isAddable(a, b) ? (Object) 1 : refuse();
            case "walk": return way.bitLength() <= 10 && way.intValue() <= 1023 ? (Object) way.intValue() : refuse();
            case "between": return steps.toString();
            case "isSame": return isSame(x, y);
            case "order": return order(x, y);
            default: throw new IllegalStateException(name);
        }
    }

    // ---- acts

    private static boolean need(int... cells) {
        for (int cell : cells) {
            if (cell < 0 || cell > 7) {
                return true;
            }
        }
        return false;
    }

    double of(boolean isAnswer, int cell) {
        return isAnswer ? answers[cell] : arguments[cell];
    }

    private Object refuse() {
        counts[2]++;
        return -9;
    }

    private Object bringArgument(int cell, double x) {
        if (window(x) < 0) {
            return refuse();
        }
        counts[0]++;
        int isNew = isSame(arguments[cell], x) ? 0 : 1;
        arguments[cell] = x;
        return isNew;
    }

    private Object bring(int into, double x) {
        if (!Double.isFinite(x)) {
            return refuse();
        }
        counts[1]++;
        int isNew = isSame(answers[into], x) ? 0 : 1;
        answers[into] = x;
        return isNew;
    }

    private Object put(int cell, boolean isBelow, int knot, int offset) {
        if (need(cell)) {
            return INDEX;
        }
        if (knot < 0 || knot > 31 || offset < -512 || offset > 511) {
            return ARGUMENT;
        }
        long point = POINTS[knot] + offset;
        if (point < 0 || point > TOP) {
            return refuse();
        }
        double size = Double.longBitsToDouble(point);
        return bringArgument(cell, isBelow ? -size : size);
    }

    private Object putDigits(int cell, int upper, int lower) {
        if (need(cell)) {
            return INDEX;
        }
        return bringArgument(cell, Double.longBitsToDouble(((long) upper << 32) | Integer.toUnsignedLong(lower)));
    }

    private Object putParts(int cell, boolean isBelow, int exponent, int high, int low) {
        if (need(cell)) {
            return INDEX;
        }
        if (exponent < 0 || exponent > 2046 || high < 0 || high >= 1 << 20) {
            return ARGUMENT;
        }
        return putDigits(cell, (isBelow ? 1 << 31 : 0) | exponent << 20 | high, low);
    }

    private Object swap(int one, int other) {
        if (need(one, other)) {
            return INDEX;
        }
        double first = arguments[one];
        arguments[one] = arguments[other];
        arguments[other] = first;
        counts[0]++;
        return isSame(arguments[one], first) ? 0 : 1;
    }

    private Object minus(int cell) {
        if (need(cell)) {
            return INDEX;
        }
        arguments[cell] = -arguments[cell];
        counts[0]++;
        return isBelow(arguments[cell]) ? 1 : 0;
    }

    private Object steps(int cell, int many, int into) {
        if (need(cell, into)) {
            return INDEX;
        }
        if (many < -1023 || many > 1023) {
            return ARGUMENT;
        }
        double x = arguments[cell];
        for (int i = 0; i < Math.abs(many) && Double.isFinite(x); i++) {
            x = many > 0 ? Math.nextUp(x) : Math.nextDown(x);
        }
        return window(x) < 0 ? refuse() : bring(into, x);
    }

    private Object towards(int one, int other, int into) {
        if (need(one, other, into)) {
            return INDEX;
        }
        boolean areNear = isNear(arguments[one]) && isNear(arguments[other]);
        return areNear ? bring(into, Math.nextAfter(arguments[one], arguments[other])) : refuse();
    }

    private Object shift(int cell, int by, int into) {
        if (need(cell, into)) {
            return INDEX;
        }
        if (by < -128 || by > 127) {
            return ARGUMENT;
        }
        double x = arguments[cell];
        return isNear(x) ? bring(into, Math.scalb(x, raiseByShift(by))) : refuse();
    }

    private Object gap(int cell, boolean isUp, int into) {
        if (need(cell, into)) {
            return INDEX;
        }
        double x = arguments[cell];
        return bring(into, Math.abs((isUp ? Math.nextUp(x) : Math.nextDown(x)) - x));
    }

    private static boolean isAddable(double a, double b) {
        return isNear(a) && isNear(b) && Math.getExponent(a) <= 1022 && Math.getExponent(b) <= 1022;
    }

    private Object sum(int one, int other, boolean isMinus, int into, boolean isError) {
        if (need(one, other, into)) {
            return INDEX;
        }
        double a = arguments[one];
        double b = isMinus ? -arguments[other] : arguments[other];
        if (!isAddable(a, b)) {
            return refuse();
        }
        return bring(into, isError ? lost(a, b) : a + b);
    }

    private Object middle(int one, int other, int into) {
        if (need(one, other, into)) {
            return INDEX;
        }
        if (!isNear(arguments[one]) || !isNear(arguments[other])) {
            return refuse();
        }
        return bring(into, at(half(place(arguments[one]), place(arguments[other]))));
    }

    private static long half(long one, long other) {
        return BigInteger.valueOf(one).add(BigInteger.valueOf(other)).shiftRight(1).longValueExact();
    }

    private Object least(int property, int cell, int into) {
        if (need(cell, into)) {
            return INDEX;
        }
        if (property < 0 || property > 6) {
            return ARGUMENT;
        }
        double a = arguments[cell];
        if (!has(property, Double.MAX_VALUE, a) || property == 3 && Math.getExponent(a) > 1022) {
            return refuse();
        }
        long low = -TOP - 1;
        long high = TOP;
        int trials = 0;
        for (; high != low + 1; trials++) {
            long middle = half(low, high);
            if (has(property, at(middle), a)) {
                high = middle;
            } else {
                low = middle;
            }
        }
        bring(into, at(high));
        return trials;
    }

    private Object readDecimal(boolean isAnswer, int cell, int into) {
        if (need(cell, into)) {
            return INDEX;
        }
        return hasDecimal(of(isAnswer, cell)) ? bring(into, of(isAnswer, cell)) : refuse();
    }

    private long digest() {
        long d = 7924;
        for (double x : arguments) {
            long[] told = {bits(x) >> 32, (int) bits(x), window(x), offset(x), Math.getExponent(x), decimals(x)};
            d = with(d, told);
        }
        for (double x : answers) {
            d = with(d, bits(x) >> 32, (int) bits(x), window(x), offset(x), decimals(x));
        }
        for (int one = 0; one < 8; one++) {
            for (int other = one + 1; other < 8; other++) {
                boolean isWithin = isWithin(arguments[one], arguments[other]);
                d = with(d, order(arguments[one], arguments[other]), isWithin ? 1 : 0);
            }
        }
        return with(d, counts[0], counts[1], counts[2], counts[3], 1);
    }

    private static long with(long before, long... values) {
        long d = before;
        for (long v : values) {
            d = d * 31 + v;
        }
        return d;
    }
}

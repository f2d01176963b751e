/**
 * Numbers of 64 binary digits and their neighbours, kept in eight argument and eight answer cells.
 * A number is held as a long of its digits, the sign in front; no calculation uses a double, so
 * that each rounding stands in the lines below.
 */
public final class Nearplaces {
    private static final int CELLS = 8;
    private static final int KNOTS = 32;
    private static final int LEAST_OFFSET = -512;
    private static final int GREATEST_OFFSET = 511;
    private static final int LEAST_NEAR_OFFSET = -2;
    private static final int GREATEST_NEAR_OFFSET = 1;
    private static final int MOST_STEPS = 1023;
    private static final int REFUSED = -9;
    private static final int NO_WINDOW = -1;
    private static final int NO_OFFSET = -9999;
    private static final int NO_DECIMALS = -1;

    private static final int FRACTION_DIGITS = 52;
    private static final long FRACTION_MASK = 0xfffffffffffffL;
    private static final long LEADING_ONE = 0x10000000000000L;
    private static final int EXPONENT_MASK = 2047;
    private static final int GREATEST_EXPONENT = 2046;
    private static final int GREATEST_ADDABLE_EXPONENT = 2045;
    private static final int EXPONENT_OF_ONE = 1023;
    private static final int LEAST_NORMAL_POWER = -1022;
    private static final int LEAST_RAISE = -1074;
    private static final int GREATEST_RAISE = 971;
    private static final long TOP = 0x7fefffffffffffffL;
    private static final long POINT_MASK = 0x7fffffffffffffffL;
    private static final long ZERO = 0L;
    private static final long ZERO_BELOW = 0x8000000000000000L;

    private static final long LOWER_HALF = 0xffffffffL;

    private static final int PROPERTIES = 7;
    private static final int PROPERTY_OF_SUMS = 3;
    private static final int MOST_TRIALS = 1000;

    private final long[] arguments;
    private final long[] answers;
    private final Notation notation;
    private final Balance balance;
    private int argumentActs;
    private int answerActs;
    private int refusals;
    private int knocks;

    public Nearplaces() {
        arguments = new long[CELLS];
        answers = new long[CELLS];
        notation = new Notation();
        balance = new Balance();
    }

    // ---- the arguments

    public int put(int cell, boolean isBelow, int knot, int offset)
            throws IndexOutOfBoundsException, IllegalArgumentException {
        requireCell(cell);
        if (knot < 0 || knot >= KNOTS) {
            throw new IllegalArgumentException("knot is not 0 to 31");
        }
        if (offset < LEAST_OFFSET || offset > GREATEST_OFFSET) {
            throw new IllegalArgumentException("offset is not -512 to 511");
        }
        return bringPoint(cell, isBelow, Knots.pointOf(knot) + offset);
    }

    public int putDigits(int cell, int upper, int lower) throws IndexOutOfBoundsException {
        requireCell(cell);
        return bringPoint(cell, upper < 0, joined(upper, lower) & POINT_MASK);
    }

    public int putParts(int cell, boolean isBelow, int exponent, int high, int low)
            throws IndexOutOfBoundsException, IllegalArgumentException {
        requireCell(cell);
        if (exponent < 0 || exponent > GREATEST_EXPONENT) {
            throw new IllegalArgumentException("exponent is not 0 to 2046");
        }
        if (high < 0 || high > 1048575) {
            throw new IllegalArgumentException("high is not 0 to 1048575");
        }
        long point = ((long) exponent << FRACTION_DIGITS) + joined(high, low);
        return bringPoint(cell, isBelow, point);
    }

    public int copy(int cell, int into) throws IndexOutOfBoundsException {
        requireCells(cell, into);
        return bringArgument(into, argumentIn(cell));
    }

    public int swap(int one, int other) throws IndexOutOfBoundsException {
        requireCells(one, other);
        long first = argumentIn(one);
        long second = argumentIn(other);
        argumentActs++;
        storeArgument(one, second);
        storeArgument(other, first);
        return first == second ? 0 : 1;
    }

    public int minus(int cell) throws IndexOutOfBoundsException {
        requireCell(cell);
        long number = Numbers.negated(argumentIn(cell));
        bringArgument(cell, number);
        return Numbers.signOf(number);
    }

    public int take(int cell, int into) throws IndexOutOfBoundsException {
        requireCells(cell, into);
        long number = answerIn(cell);
        return bringPoint(into, number < 0, Numbers.pointOf(number));
    }

    // ---- the answers

    public int keep(int cell, int into) throws IndexOutOfBoundsException {
        requireCells(cell, into);
        return bringAnswer(into, argumentIn(cell));
    }

    public int up(int cell, int into) throws IndexOutOfBoundsException {
        requireCells(cell, into);
        return bringNeighbour(true, cell, into);
    }

    public int down(int cell, int into) throws IndexOutOfBoundsException {
        requireCells(cell, into);
        return bringNeighbour(false, cell, into);
    }

    public int steps(int cell, int many, int into)
            throws IndexOutOfBoundsException, IllegalArgumentException {
        requireCells(cell, into);
        if (many < -MOST_STEPS || many > MOST_STEPS) {
            throw new IllegalArgumentException("many is not -1023 to 1023");
        }
        long number = argumentIn(cell);
        long place = Numbers.placeOf(number) + many;
        if (Knots.windowOf(Math.abs(place)) == NO_WINDOW) {
            return refuse();
        }
        return bringAnswer(into, many == 0 ? number : Numbers.cameTo(place, many > 0));
    }

    public int towards(int one, int other, int into) throws IndexOutOfBoundsException {
        requireCells(one, other);
        requireCell(into);
        if (!areNear(one, other)) {
            return refuse();
        }
        return bringAnswer(into, Numbers.nearer(argumentIn(one), argumentIn(other)));
    }

    public int shift(int cell, int by, int into)
            throws IndexOutOfBoundsException, IllegalArgumentException {
        requireCells(cell, into);
        if (by < -128 || by > 127) {
            throw new IllegalArgumentException("by is not -128 to 127");
        }
        long shifted = Numbers.shifted(argumentIn(cell), Numbers.raiseByShift(by));
        if (!Knots.isNearOne(argumentIn(cell)) || Numbers.isNone(shifted)) {
            return refuse();
        }
        return bringAnswer(into, shifted);
    }

    public int unit(int cell, int into) throws IndexOutOfBoundsException {
        requireCells(cell, into);
        return bringAnswer(into, Numbers.unitOf(argumentIn(cell)));
    }

    public int unitByPower(int cell, int into) throws IndexOutOfBoundsException {
        requireCells(cell, into);
        return bringAnswer(into, Numbers.unitFromPower(Numbers.powerOf(argumentIn(cell))));
    }

    public int gap(int cell, boolean isUp, int into) throws IndexOutOfBoundsException {
        requireCells(cell, into);
        long number = argumentIn(cell);
        if (!Numbers.hasNext(number, isUp)) {
            return refuse();
        }
        return bringAnswer(into, Sums.gapOf(number, isUp));
    }

    public int sum(int one, int other, boolean isMinus, int into) throws IndexOutOfBoundsException {
        requireCells(one, other);
        requireCell(into);
        if (!areAddable(one, other)) {
            return refuse();
        }
        return bringAnswer(into, Sums.added(argumentIn(one), addendIn(other, isMinus)));
    }

    public int error(int one, int other, boolean isMinus, int into) throws IndexOutOfBoundsException {
        requireCells(one, other);
        requireCell(into);
        if (!areAddable(one, other)) {
            return refuse();
        }
        return bringAnswer(into, Sums.errorOf(argumentIn(one), addendIn(other, isMinus)));
    }

    public int middle(int one, int other, int into) throws IndexOutOfBoundsException {
        requireCells(one, other);
        requireCell(into);
        if (!areNear(one, other)) {
            return refuse();
        }
        long first = Numbers.placeOf(argumentIn(one));
        long second = Numbers.placeOf(argumentIn(other));
        return bringAnswer(into, Numbers.at(Numbers.halfOfBoth(first, second)));
    }

    public int least(int property, int cell, int into)
            throws IndexOutOfBoundsException, IllegalArgumentException {
        requireCells(cell, into);
        if (property < 0 || property >= PROPERTIES) {
            throw new IllegalArgumentException("property is not 0 to 6");
        }
        long held = argumentIn(cell);
        boolean isTooGreat = Numbers.exponentOf(held) > GREATEST_ADDABLE_EXPONENT;
        if (property == PROPERTY_OF_SUMS && isTooGreat || !Properties.isHad(property, TOP, held)) {
            return refuse();
        }
        int trials = 0;
        long low = -TOP - 1;
        long high = TOP;
        while (high != low + 1 && trials < MOST_TRIALS) {
            long half = Numbers.halfOfBoth(low, high);
            if (Properties.isHad(property, Numbers.at(half), held)) {
                high = half;
            } else {
                low = half;
            }
            trials++;
        }
        bringAnswer(into, Numbers.at(high));
        return trials;
    }

    public int readBinary(boolean isAnswer, int cell, int into) throws IndexOutOfBoundsException {
        requireCells(cell, into);
        notation.spellBinary(numberIn(isAnswer, cell));
        return bringAnswer(into, notation.numberOfBinary());
    }

    public int readDecimal(boolean isAnswer, int cell, int into) throws IndexOutOfBoundsException {
        requireCells(cell, into);
        long number = numberIn(isAnswer, cell);
        if (!Notation.hasDecimal(number)) {
            return refuse();
        }
        notation.spellDecimal(number);
        return bringAnswer(into, notation.numberOfDecimal());
    }

    // ---- what is asked of arguments

    public int power(int cell) throws IndexOutOfBoundsException {
        requireCell(cell);
        return Numbers.powerOf(argumentIn(cell));
    }

    public int powerByUnit(int cell) throws IndexOutOfBoundsException {
        requireCell(cell);
        return Numbers.powerFromUnit(Numbers.unitOf(argumentIn(cell)));
    }

    public boolean isEdge(int cell) throws IndexOutOfBoundsException {
        requireCell(cell);
        long size = Numbers.sizeOf(argumentIn(cell));
        return Numbers.unitOf(size) != Sums.gapOf(size, false);
    }

    public boolean isUnitStep(int cell) throws IndexOutOfBoundsException {
        requireCell(cell);
        long size = Numbers.sizeOf(argumentIn(cell));
        long stepped = Sums.added(size, Numbers.unitOf(size));
        if (!Numbers.hasNext(size, true)) {
            return Numbers.isNone(stepped);
        }
        return stepped == Numbers.next(size, true);
    }

    public boolean isNear(int cell) throws IndexOutOfBoundsException {
        requireCell(cell);
        return Knots.isNearOne(argumentIn(cell));
    }

    public boolean isWithin(int one, int other) throws IndexOutOfBoundsException {
        requireCells(one, other);
        return Numbers.areWithin(argumentIn(one), argumentIn(other));
    }

    public int exact(int one, int other, boolean isMinus) throws IndexOutOfBoundsException {
        requireCells(one, other);
        if (!areAddable(one, other)) {
            return refuse();
        }
        return Sums.losesNothing(argumentIn(one), addendIn(other, isMinus)) ? 1 : 0;
    }

    public int holds(int one, int other, boolean isMinus) throws IndexOutOfBoundsException {
        requireCells(one, other);
        if (!areAddable(one, other)) {
            return refuse();
        }
        return isSumWhole(argumentIn(one), addendIn(other, isMinus)) ? 1 : 0;
    }

    public int walk(int one, int other) throws IndexOutOfBoundsException {
        requireCells(one, other);
        long first = Numbers.placeOf(argumentIn(one));
        long second = Numbers.placeOf(argumentIn(other));
        long apart = Math.max(first, second) - Math.min(first, second);
        // Places of different signs may lie further apart than a long tells: then it wraps below 0.
        if (apart < 0 || apart > MOST_STEPS) {
            return refuse();
        }
        return (int) apart;
    }

    // ---- what is asked of both

    public int window(boolean isAnswer, int cell) throws IndexOutOfBoundsException {
        requireCell(cell);
        return Knots.windowOf(Numbers.pointOf(numberIn(isAnswer, cell)));
    }

    public int offset(boolean isAnswer, int cell) throws IndexOutOfBoundsException {
        requireCell(cell);
        return Knots.offsetOf(Numbers.pointOf(numberIn(isAnswer, cell)));
    }

    public int upper(boolean isAnswer, int cell) throws IndexOutOfBoundsException {
        requireCell(cell);
        return (int) (numberIn(isAnswer, cell) >>> 32);
    }

    public int lower(boolean isAnswer, int cell) throws IndexOutOfBoundsException {
        requireCell(cell);
        return (int) numberIn(isAnswer, cell);
    }

    public String parts(boolean isAnswer, int cell) throws IndexOutOfBoundsException {
        requireCell(cell);
        return notation.textOfParts(numberIn(isAnswer, cell));
    }

    public String place(boolean isAnswer, int cell) throws IndexOutOfBoundsException {
        requireCell(cell);
        long place = Numbers.placeOf(numberIn(isAnswer, cell));
        return notation.textOfInteger(place < 0, Math.abs(place));
    }

    public String between(boolean isAnswer, int one, boolean isOtherAnswer, int other)
            throws IndexOutOfBoundsException {
        requireCells(one, other);
        long first = Numbers.placeOf(numberIn(isAnswer, one));
        long second = Numbers.placeOf(numberIn(isOtherAnswer, other));
        return notation.textOfInteger(second < first, Math.max(first, second) - Math.min(first, second));
    }

    public String binary(boolean isAnswer, int cell) throws IndexOutOfBoundsException {
        requireCell(cell);
        notation.spellBinary(numberIn(isAnswer, cell));
        return notation.spelled();
    }

    public String decimal(boolean isAnswer, int cell) throws IndexOutOfBoundsException {
        requireCell(cell);
        long number = numberIn(isAnswer, cell);
        if (!Notation.hasDecimal(number)) {
            return "";
        }
        notation.spellDecimal(number);
        return notation.spelled();
    }

    public int decimals(boolean isAnswer, int cell) throws IndexOutOfBoundsException {
        requireCell(cell);
        return Notation.decimalsOf(numberIn(isAnswer, cell));
    }

    public boolean isSame(boolean isAnswer, int one, boolean isOtherAnswer, int other)
            throws IndexOutOfBoundsException {
        requireCells(one, other);
        return numberIn(isAnswer, one) == numberIn(isOtherAnswer, other);
    }

    public int order(boolean isAnswer, int one, boolean isOtherAnswer, int other)
            throws IndexOutOfBoundsException {
        requireCells(one, other);
        return Numbers.orderOf(numberIn(isAnswer, one), numberIn(isOtherAnswer, other));
    }

    // ---- the whole

    public int house(int what) throws IllegalArgumentException {
        if (what < 0 || what > 3) {
            throw new IllegalArgumentException("what is not 0 to 3");
        }
        return counted(what);
    }

    public int knock() {
        knocks++;
        return knocks;
    }

    public boolean isSound() {
        return areArgumentsSound() && areTextsSound() && areSumsSound();
    }

    public long digest() {
        long d = 7924;
        for (int cell = 0; cell < CELLS; cell++) {
            long number = argumentIn(cell);
            d = withDigits(d, number);
            d = d * 31 + Numbers.powerOf(number);
            d = d * 31 + Notation.decimalsOf(number);
        }
        for (int cell = 0; cell < CELLS; cell++) {
            long number = answerIn(cell);
            d = withDigits(d, number);
            d = d * 31 + Notation.decimalsOf(number);
        }
        for (int one = 0; one < CELLS; one++) {
            for (int other = one + 1; other < CELLS; other++) {
                d = d * 31 + Numbers.orderOf(argumentIn(one), argumentIn(other));
                d = d * 31 + (Numbers.areWithin(argumentIn(one), argumentIn(other)) ? 1 : 0);
            }
        }
        for (int what = 0; what <= 3; what++) {
            d = d * 31 + counted(what);
        }
        return d * 31 + (isSound() ? 1 : 0);
    }

    private static long withDigits(long before, long number) {
        long point = Numbers.pointOf(number);
        long d = before * 31 + (int) (number >>> 32);
        d = d * 31 + (int) number;
        d = d * 31 + Knots.windowOf(point);
        return d * 31 + Knots.offsetOf(point);
    }

    // ---- cells

    private static void requireCell(int cell) throws IndexOutOfBoundsException {
        if (cell < 0 || cell >= CELLS) {
            throw new IndexOutOfBoundsException("no such cell");
        }
    }

    private static void requireCells(int one, int other) throws IndexOutOfBoundsException {
        requireCell(one);
        requireCell(other);
    }

    private long argumentIn(int cell) {
        return cell >= 0 && cell < arguments.length ? arguments[cell] : ZERO;
    }

    private long answerIn(int cell) {
        return cell >= 0 && cell < answers.length ? answers[cell] : ZERO;
    }

    private long numberIn(boolean isAnswer, int cell) {
        return isAnswer ? answerIn(cell) : argumentIn(cell);
    }

    private long addendIn(int cell, boolean isMinus) {
        return isMinus ? Numbers.negated(argumentIn(cell)) : argumentIn(cell);
    }

    private void storeArgument(int cell, long number) {
        if (cell >= 0 && cell < arguments.length) {
            arguments[cell] = number;
        }
    }

    private int bringArgument(int cell, long number) {
        long before = argumentIn(cell);
        argumentActs++;
        storeArgument(cell, number);
        return before == number ? 0 : 1;
    }

    private int bringPoint(int cell, boolean isBelow, long point) {
        if (Knots.windowOf(point) == NO_WINDOW) {
            return refuse();
        }
        return bringArgument(cell, Numbers.ofPoint(isBelow, point));
    }

    private int bringAnswer(int into, long number) {
        long before = answerIn(into);
        answerActs++;
        if (into >= 0 && into < answers.length) {
            answers[into] = number;
        }
        return before == number ? 0 : 1;
    }

    private int bringNeighbour(boolean isUp, int cell, int into) {
        long number = argumentIn(cell);
        if (!Numbers.hasNext(number, isUp)) {
            return refuse();
        }
        return bringAnswer(into, Numbers.next(number, isUp));
    }

    private int refuse() {
        refusals++;
        return REFUSED;
    }

    private int counted(int what) {
        switch (what) {
            case 0:
                return argumentActs;
            case 1:
                return answerActs;
            case 2:
                return refusals;
            default:
                return knocks;
        }
    }

    private boolean areNear(int one, int other) {
        return Knots.isNearOne(argumentIn(one)) && Knots.isNearOne(argumentIn(other));
    }

    private boolean areAddable(int one, int other) {
        long first = argumentIn(one);
        long second = argumentIn(other);
        return Knots.isNearOne(first)
                && Knots.isNearOne(second)
                && Numbers.exponentOf(first) <= GREATEST_ADDABLE_EXPONENT
                && Numbers.exponentOf(second) <= GREATEST_ADDABLE_EXPONENT;
    }

    private static long joined(int upper, int lower) {
        return ((long) upper << 32) | (lower & LOWER_HALF);
    }

    // ---- the parts of the theorem

    private boolean areArgumentsSound() {
        for (int cell = 0; cell < CELLS; cell++) {
            long number = argumentIn(cell);
            boolean isTold = Knots.windowOf(Numbers.pointOf(number)) != NO_WINDOW;
            if (!isTold || !isNextSound(number) || !isUnitSound(number)) {
                return false;
            }
        }
        return true;
    }

    private static boolean isNextSound(long number) {
        if (!Numbers.hasNext(number, true)) {
            return true;
        }
        long above = Numbers.next(number, true);
        long back = Numbers.next(above, false);
        return Numbers.placeOf(above) == Numbers.placeOf(number) + 1
                && Numbers.placeOf(back) == Numbers.placeOf(number);
    }

    private static boolean isUnitSound(long number) {
        long unit = Numbers.unitOf(number);
        int power = Numbers.powerOf(number);
        return unit == Numbers.unitFromPower(power)
                && Numbers.powerFromUnit(unit) == Math.max(power, LEAST_NORMAL_POWER);
    }

    private boolean areTextsSound() {
        for (int cell = 0; cell < CELLS; cell++) {
            if (!isReadBack(argumentIn(cell)) || !isReadBack(answerIn(cell))) {
                return false;
            }
        }
        return true;
    }

    private boolean isReadBack(long number) {
        notation.spellBinary(number);
        if (notation.numberOfBinary() != number) {
            return false;
        }
        if (!Notation.hasDecimal(number)) {
            return true;
        }
        notation.spellDecimal(number);
        return notation.numberOfDecimal() == number;
    }

    private boolean areSumsSound() {
        for (int one = 0; one < CELLS; one++) {
            for (int other = one + 1; other < CELLS; other++) {
                long first = argumentIn(one);
                long second = argumentIn(other);
                long opposite = Numbers.negated(second);
                boolean isDue = areAddable(one, other);
                if (isDue && !(isSumWhole(first, second) && isSumWhole(first, opposite))) {
                    return false;
                }
                if (isDue && Numbers.areWithin(first, second) && !Sums.losesNothing(first, opposite)) {
                    return false;
                }
            }
        }
        return true;
    }

    private boolean isSumWhole(long one, long other) {
        balance.weigh(one);
        balance.weigh(other);
        balance.weigh(Numbers.negated(Sums.added(one, other)));
        balance.weigh(Numbers.negated(Sums.errorOf(one, other)));
        return balance.comesToZero();
    }

    /** The told points round which the arguments lie. */
    private static final class Knots {
        private static final int[] EXPONENTS = {
            0, 0, 1, 2, 52, 53, 54, 512,
            969, 970, 971, 996, 1019, 1021, 1022, 1022,
            1023, 1023, 1024, 1024, 1025, 1026, 1049, 1074,
            1075, 1076, 1076, 1096, 1500, 2045, 2046, 2046
        };
        private static final long[] FRACTIONS = {
            0L, 2251799813685248L, 0L, 0L, 2251799813685248L, 0L, 0L, 1501199875790165L,
            0L, 0L, 0L, 2702159776422298L, 2702159776422298L, 1501199875790165L, 0L, 3002399751580330L,
            0L, 2251799813685248L, 0L, 2570638124657944L, 0L, 1125899906842624L, 2251799813685249L, 0L,
            0L, 0L, 1501199875790165L, 123456789012345L, 2702159776422298L, 0L, 0L, 4503599627370495L
        };

        private Knots() {
        }

        static long pointOf(int knot) {
            if (knot < 0 || knot >= EXPONENTS.length || knot >= FRACTIONS.length) {
                return ZERO;
            }
            return ((long) EXPONENTS[knot] << FRACTION_DIGITS) + FRACTIONS[knot];
        }

        static int windowOf(long point) {
            return knotBy(point, LEAST_OFFSET, GREATEST_OFFSET);
        }

        static int offsetOf(long point) {
            int knot = windowOf(point);
            return knot == NO_WINDOW ? NO_OFFSET : (int) (point - pointOf(knot));
        }

        static boolean isNearOne(long number) {
            return knotBy(Numbers.pointOf(number), LEAST_NEAR_OFFSET, GREATEST_NEAR_OFFSET) != NO_WINDOW;
        }

        private static int knotBy(long point, int leastOffset, int greatestOffset) {
            if (point < 0 || point > TOP) {
                return NO_WINDOW;
            }
            for (int knot = 0; knot < KNOTS; knot++) {
                long offset = point - pointOf(knot);
                if (offset >= leastOffset && offset <= greatestOffset) {
                    return knot;
                }
            }
            return NO_WINDOW;
        }
    }

    /** One number, its parts, its neighbours and its unit. */
    private static final class Numbers {
        private Numbers() {
        }

        static int signOf(long number) {
            return (int) (number >>> 63);
        }

        static int exponentOf(long number) {
            return (int) (number >>> FRACTION_DIGITS) & EXPONENT_MASK;
        }

        static long fractionOf(long number) {
            return number & FRACTION_MASK;
        }

        static long pointOf(long number) {
            return number & POINT_MASK;
        }

        static long placeOf(long number) {
            return number < 0 ? -(number & POINT_MASK) : number;
        }

        static long ofPoint(boolean isBelow, long point) {
            return isBelow ? point | ZERO_BELOW : point;
        }

        static long at(long place) {
            return place < 0 ? -place | ZERO_BELOW : place;
        }

        static long negated(long number) {
            return number ^ ZERO_BELOW;
        }

        /** The size is told by the number of that size with sign 0. */
        static long sizeOf(long number) {
            return number & POINT_MASK;
        }

        /** Beyond the greatest number stands the place of 2^1024, where rounding finds none. */
        static boolean isNone(long number) {
            return pointOf(number) > TOP;
        }

        static long wholeOf(long number) {
            long fraction = number & FRACTION_MASK;
            boolean isNormal = (number & POINT_MASK) > FRACTION_MASK;
            return isNormal ? fraction | LEADING_ONE : fraction;
        }

        static long signedWholeOf(long number) {
            return number < 0 ? -wholeOf(number) : wholeOf(number);
        }

        static int raiseOf(long number) {
            int exponent = (int) (number >>> FRACTION_DIGITS) & EXPONENT_MASK;
            return exponent == 0 ? LEAST_RAISE : exponent - 1 + LEAST_RAISE;
        }

        static boolean hasNext(long number, boolean isUp) {
            return placeOf(number) != (isUp ? TOP : -TOP);
        }

        static long next(long number, boolean isUp) {
            return cameTo(placeOf(number) + (isUp ? 1 : -1), isUp);
        }

        /** A zero that is come to from below keeps the sign of what was left. */
        static long cameTo(long place, boolean isFromBelow) {
            return place == 0 && isFromBelow ? ZERO_BELOW : at(place);
        }

        static long nearer(long one, long other) {
            if (placeOf(one) == placeOf(other)) {
                return other;
            }
            return next(one, placeOf(one) < placeOf(other));
        }

        /** Rounded down without the sum of both, which may be too great for a long. */
        static long halfOfBoth(long one, long other) {
            return (one & other) + ((one ^ other) >> 1);
        }

        static int powerOf(long number) {
            return exponentOf(number) - EXPONENT_OF_ONE;
        }

        static long unitOf(long number) {
            return Sums.rounded(false, 1, raiseOf(number));
        }

        static long unitFromPower(int power) {
            return Sums.rounded(false, 1, Math.max(power, LEAST_NORMAL_POWER) - FRACTION_DIGITS);
        }

        static int powerFromUnit(long unit) {
            return powerOf(shifted(unit, FRACTION_DIGITS));
        }

        static int raiseByShift(int by) {
            if (by < -64) {
                return (by + 64) * 33 - 64;
            }
            return by > 63 ? (by - 63) * 33 + 63 : by;
        }

        static long shifted(long number, int raise) {
            return Sums.rounded(number < 0, wholeOf(number), raiseOf(number) + raise);
        }

        /** Below the normal numbers twice the size is twice the point, else one exponent more. */
        static long twicePointOf(long number) {
            long point = pointOf(number);
            return exponentOf(number) == 0 ? point + point : point + LEADING_ONE;
        }

        static boolean areWithin(long one, long other) {
            return signOf(one) == signOf(other)
                    && pointOf(one) <= twicePointOf(other)
                    && pointOf(other) <= twicePointOf(one);
        }

        static int orderOf(long one, long other) {
            long first = placeOf(one);
            long second = placeOf(other);
            if (first != second) {
                return first < second ? -1 : 1;
            }
            return signOf(other) - signOf(one);
        }
    }

    /** What is rounded: values, sums and what sums lose. */
    private static final class Sums {
        private static final int WHOLE_DIGITS = 53;
        private static final int SPARE_DIGITS = 9;

        private Sums() {
        }

        /** Rounds whole * 2^raise, whole from 0 on; where there is none it tells 2^1024. */
        static long rounded(boolean isBelow, long whole, int raise) {
            long sign = isBelow ? ZERO_BELOW : ZERO;
            if (whole <= 0) {
                return sign;
            }
            int length = 64 - Long.numberOfLeadingZeros(whole);
            int unitRaise = Math.max(raise + length - WHOLE_DIGITS, LEAST_RAISE);
            if (unitRaise > GREATEST_RAISE) {
                return sign | TOP + 1;
            }
            long units = inUnits(whole, unitRaise - raise);
            // Added, not joined: 2^53 units are the first number of the next exponent.
            return sign | ((long) (unitRaise - LEAST_RAISE) << FRACTION_DIGITS) + units;
        }

        private static long inUnits(long whole, int lost) {
            if (lost <= 0) {
                return whole << -lost;
            }
            if (lost > 63) {
                return 0;
            }
            long units = whole >>> lost;
            long rest = whole - (units << lost);
            long half = 1L << (lost - 1);
            boolean isUp = rest > half || rest == half && (units & 1) == 1;
            return isUp ? units + 1 : units;
        }

        static long added(long one, long other) {
            boolean isOneLower = Numbers.raiseOf(one) < Numbers.raiseOf(other);
            long upperOne = isOneLower ? other : one;
            long lowerOne = isOneLower ? one : other;
            int apart = Numbers.raiseOf(upperOne) - Numbers.raiseOf(lowerOne);
            int spare = Math.min(apart, SPARE_DIGITS);
            long whole = (Numbers.signedWholeOf(upperOne) << spare)
                    + loweredBy(Numbers.signedWholeOf(lowerOne), apart - spare);
            if (whole == 0) {
                return one == ZERO_BELOW && other == ZERO_BELOW ? ZERO_BELOW : ZERO;
            }
            return rounded(whole < 0, Math.abs(whole), Numbers.raiseOf(upperOne) - spare);
        }

        /**
         * Digits are lost only below a whole of 61 digits and more: there an odd last digit, put
         * for all that was lost, rounds the same way.
         */
        private static long loweredBy(long whole, int digits) {
            int lost = Math.min(digits, 63);
            long kept = whole >> lost;
            return kept << lost == whole ? kept : kept | 1;
        }

        /**
         * The sum less the one of greater size is always a number, and so is the other one less
         * that; so both differences are not rounded.
         */
        static long errorOf(long one, long other) {
            boolean isOneGreater = Numbers.pointOf(one) >= Numbers.pointOf(other);
            long greater = isOneGreater ? one : other;
            long smaller = isOneGreater ? other : one;
            long broughtBySmaller = added(added(one, other), Numbers.negated(greater));
            long error = added(smaller, Numbers.negated(broughtBySmaller));
            return error == ZERO_BELOW ? ZERO : error;
        }

        static boolean losesNothing(long one, long other) {
            return errorOf(one, other) == ZERO;
        }

        static long gapOf(long number, boolean isUp) {
            long neighbour = Numbers.next(number, isUp);
            return Numbers.sizeOf(added(neighbour, Numbers.negated(number)));
        }
    }

    /** The properties that the search looks for. */
    private static final class Properties {
        private Properties() {
        }

        static boolean isHad(int property, long number, long held) {
            long place = Numbers.placeOf(number);
            long heldPlace = Numbers.placeOf(held);
            switch (property) {
                case 0:
                    return place >= heldPlace;
                case 1:
                    return place >= 0 && Numbers.unitOf(number) >= Numbers.unitOf(held);
                case 2:
                    return place >= 0 && Numbers.powerOf(number) >= Numbers.powerOf(held);
                case 3:
                    // None stands at the place of 2^1024, or below at its opposite: so it compares right.
                    return Numbers.placeOf(Sums.added(held, number)) > heldPlace;
                case 4:
                    return twicePlaceOf(number) >= heldPlace;
                case 5:
                    return place == TOP || place + 1 >= heldPlace;
                case 6:
                    return place >= 0 && Numbers.unitOf(number) >= heldPlace;
                default:
                    return false;
            }
        }

        private static long twicePlaceOf(long number) {
            long twice = Numbers.twicePointOf(number);
            return number < 0 ? -twice : twice;
        }
    }

    /** Weighs sums of a few values to the last digit, in limbs of 32 digits from 2^-1074 on. */
    private static final class Balance {
        private static final int LIMBS = 68;

        private final long[] limbs;

        Balance() {
            limbs = new long[LIMBS];
        }

        void weigh(long number) {
            long whole = Numbers.signedWholeOf(number);
            int position = Numbers.raiseOf(number) - LEAST_RAISE;
            int digits = position & 31;
            long low = (whole & LOWER_HALF) << digits;
            addTo(position >> 5, low & LOWER_HALF);
            addTo((position >> 5) + 1, (low >>> 32) + (whole >> 32 << digits));
        }

        private void addTo(int limb, long many) {
            if (limb >= 0 && limb < limbs.length) {
                limbs[limb] += many;
            }
        }

        /** Clears the limbs, too: the next weighing begins at nothing. */
        boolean comesToZero() {
            boolean isZero = true;
            long carried = 0;
            for (int limb = 0; limb < limbs.length; limb++) {
                long many = limbs[limb] + carried;
                isZero = isZero && (many & LOWER_HALF) == 0;
                carried = many >> 32;
                limbs[limb] = 0;
            }
            return isZero && carried == 0;
        }
    }

    /** Writes numbers as texts, and reads what it wrote. */
    private static final class Notation {
        private static final int MOST_RAISE = 200;
        private static final long BILLION = 1000000000L;
        private static final int BILLION_DIGITS = 9;
        private static final int MOST_TWOS = 30;
        private static final int MOST_FIVES = 12;

        private final Text text;
        private final Wide wide;

        Notation() {
            text = new Text();
            wide = new Wide();
        }

        static long oddWholeOf(long number) {
            long whole = Numbers.wholeOf(number);
            return whole == 0 ? 0 : whole >> Long.numberOfTrailingZeros(whole);
        }

        static int oddRaiseOf(long number) {
            long whole = Numbers.wholeOf(number);
            return whole == 0 ? 0 : Numbers.raiseOf(number) + Long.numberOfTrailingZeros(whole);
        }

        static boolean hasDecimal(long number) {
            return Math.abs(oddRaiseOf(number)) <= MOST_RAISE;
        }

        static int decimalsOf(long number) {
            return hasDecimal(number) ? Math.max(-oddRaiseOf(number), 0) : NO_DECIMALS;
        }

        String spelled() {
            return text.asString();
        }

        String textOfInteger(boolean isBelow, long size) {
            text.clear();
            text.integerInFront(isBelow, size);
            return text.asString();
        }

        String textOfParts(long number) {
            text.clear();
            text.integerInFront(false, Numbers.fractionOf(number));
            text.signInFront(' ');
            text.integerInFront(false, Numbers.exponentOf(number));
            text.signInFront(' ');
            text.integerInFront(false, Numbers.signOf(number));
            return text.asString();
        }

        void spellBinary(long number) {
            int raise = oddRaiseOf(number);
            text.clear();
            text.integerInFront(raise < 0, Math.abs(raise));
            text.signInFront('^');
            text.signInFront('2');
            text.signInFront('*');
            text.integerInFront(number < 0, oddWholeOf(number));
        }

        long numberOfBinary() {
            text.beginReading();
            boolean isBelow = text.goPast('-');
            long whole = text.goPastDigits();
            text.goPast('*');
            text.goPast('2');
            text.goPast('^');
            boolean isRaiseBelow = text.goPast('-');
            int raise = (int) text.goPastDigits();
            return Sums.rounded(isBelow, whole, isRaiseBelow ? -raise : raise);
        }

        /** whole / 2^n is whole * 5^n with the point put n digits from the end. */
        void spellDecimal(long number) {
            int raise = oddRaiseOf(number);
            int behind = Math.max(-raise, 0);
            wide.become(oddWholeOf(number));
            for (int done = 0; done < raise; done += MOST_TWOS) {
                wide.multiply(1L << Math.min(raise - done, MOST_TWOS), 0);
            }
            for (int done = 0; done < behind; done += MOST_FIVES) {
                wide.multiply(fives(behind - done), 0);
            }
            text.clear();
            spellWideDigits(behind);
            if (number < 0) {
                text.signInFront('-');
            }
        }

        private void spellWideDigits(int behind) {
            long group = 0;
            for (int i = 0; i < Text.LENGTH && (i <= behind || group > 0 || !wide.isZero()); i++) {
                if (i > 0 && i == behind) {
                    text.signInFront('.');
                }
                if (i % BILLION_DIGITS == 0) {
                    group = wide.divide(BILLION);
                }
                text.signInFront((char) ('0' + group % 10));
                group = group / 10;
            }
        }

        long numberOfDecimal() {
            text.beginReading();
            boolean isBelow = text.goPast('-');
            int behind = gatherDigits();
            for (int done = 0; done < behind; done += MOST_FIVES) {
                wide.divide(fives(behind - done));
            }
            int raise = -behind;
            // From the first binary 1 to the last stand at most 53 digits: of 64 and more ten are 0.
            while (!wide.fitsLong() && raise < MOST_RAISE) {
                wide.divide(1L << 10);
                raise += 10;
            }
            return Sums.rounded(isBelow, wide.asLong(), raise);
        }

        /** Tells how many digits stand behind the point. */
        private int gatherDigits() {
            long group = 0;
            long scale = 1;
            int behind = 0;
            boolean isBehind = false;
            wide.become(0);
            for (int i = 0; i < Text.LENGTH && text.hasMore(); i++) {
                if (text.goPast('.')) {
                    isBehind = true;
                } else {
                    group = group * 10 + text.goPastDigit();
                    scale = scale * 10;
                    behind = isBehind ? behind + 1 : behind;
                }
                if (scale == BILLION) {
                    wide.multiply(scale, group);
                    group = 0;
                    scale = 1;
                }
            }
            wide.multiply(scale, group);
            return behind;
        }

        private static long fives(int many) {
            long product = 1;
            for (int i = 0; i < many && i < MOST_FIVES; i++) {
                product = product * 5;
            }
            return product;
        }
    }

    /** A row of signs that grows at its front: numbers are told from their last digit on. */
    private static final class Text {
        static final int LENGTH = 256;
        private static final int MOST_DIGITS = 20;

        private final char[] signs;
        private int front;
        private int reading;

        Text() {
            signs = new char[LENGTH];
            front = LENGTH;
            reading = LENGTH;
        }

        void clear() {
            front = signs.length;
        }

        void signInFront(char sign) {
            if (front > 0 && front <= signs.length) {
                front--;
                signs[front] = sign;
            }
        }

        /** The size is told without a sign digit: steps between two places may need all 64. */
        void integerInFront(boolean isBelow, long size) {
            long rest = size;
            for (int i = 0; i < MOST_DIGITS && (i == 0 || rest != 0); i++) {
                long tenth = (rest >>> 1) / 5;
                signInFront((char) ('0' + (rest - tenth * 10)));
                rest = tenth;
            }
            if (isBelow) {
                signInFront('-');
            }
        }

        String asString() {
            if (front < 0 || front > signs.length) {
                return "";
            }
            char[] told = new char[signs.length - front];
            for (int i = 0; i < told.length && front + i < signs.length; i++) {
                told[i] = signs[front + i];
            }
            return new String(told);
        }

        void beginReading() {
            reading = front;
        }

        boolean hasMore() {
            return reading >= 0 && reading < signs.length;
        }

        boolean goPast(char sign) {
            if (reading < 0 || reading >= signs.length || signs[reading] != sign) {
                return false;
            }
            reading++;
            return true;
        }

        /** Tells -1, and goes past nothing, where no digit stands. */
        int goPastDigit() {
            if (reading < 0 || reading >= signs.length || signs[reading] < '0' || signs[reading] > '9') {
                return -1;
            }
            int digit = signs[reading] - '0';
            reading++;
            return digit;
        }

        long goPastDigits() {
            long number = 0;
            int digit = goPastDigit();
            for (int i = 0; i < MOST_DIGITS && digit >= 0; i++) {
                number = number * 10 + digit;
                digit = goPastDigit();
            }
            return number;
        }
    }

    /** A whole number from 0 on of more than 64 digits, in words of 32, the lowest one first. */
    private static final class Wide {
        /** 2^53 * 5^200 needs 17. */
        private static final int WORDS = 20;

        private final long[] words;
        private int used;

        Wide() {
            words = new long[WORDS];
            used = 0;
        }

        void become(long number) {
            used = 0;
            multiply(1, number >>> 32);
            multiply(1L << 32, number & LOWER_HALF);
        }

        /** Multiplies by a factor of at most 2^32, then adds less than 2^32. */
        void multiply(long factor, long addend) {
            long carried = addend;
            for (int i = 0; i < used && i < words.length; i++) {
                long product = words[i] * factor + carried;
                words[i] = product & LOWER_HALF;
                carried = product >>> 32;
            }
            if (carried != 0 && used >= 0 && used < words.length) {
                words[used] = carried;
                used++;
            }
        }

        /** Divides by at most 2^31, and tells the rest. */
        long divide(long divisor) {
            if (divisor <= 0) {
                return 0;
            }
            long rest = 0;
            for (int i = Math.min(used, words.length) - 1; i >= 0; i--) {
                long many = rest << 32 | words[i];
                words[i] = many / divisor;
                rest = many % divisor;
            }
            dropLeadingZeros();
            return rest;
        }

        private void dropLeadingZeros() {
            while (used > 0 && used <= words.length && words[used - 1] == 0) {
                used--;
            }
        }

        boolean isZero() {
            return used == 0;
        }

        boolean fitsLong() {
            return used < 2 || used == 2 && words.length > 1 && words[1] >> 31 == 0;
        }

        long asLong() {
            long low = used > 0 && words.length > 0 ? words[0] : 0;
            long high = used > 1 && words.length > 1 ? words[1] : 0;
            return high << 32 | low;
        }
    }
}

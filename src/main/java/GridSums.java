/**
 * Whole numbers on a grid, exactly: turns, crossings, areas, wide products, quotients by rules,
 * shares and digits. No call makes an object: all rows and wide numbers are made once, here.
 */
public final class GridSums {
    public static final int BAD = -1, APART = 0, CROSSES = 1, ALONG = 2, REFUSED = -2;

    private static final long EDGE = 1L << 40;
    private static final long NONE = -(1L << 62);
    private static final long LIMB_MASK = 0xFFFFFFFFL;
    private static final long SIGN_BIT = 1L << 63;
    private static final int LINES = 16;
    private static final int CORNERS = 64;
    private static final int MOST_SHARES = 1000000;
    private static final int MOST_DIGITS = 64;

    private static final int DOWN = 0;
    private static final int UP = 1;
    private static final int TOWARD_ZERO = 2;
    private static final int AWAY_FROM_ZERO = 3;
    private static final int HALF_AWAY = 4;
    private static final int HALF_EVEN = 6;

    private final boolean[] told = new boolean[LINES];
    private final long[] startX = new long[LINES];
    private final long[] startY = new long[LINES];
    private final long[] wayX = new long[LINES];
    private final long[] wayY = new long[LINES];
    private final long[] cornerX = new long[CORNERS];
    private final long[] cornerY = new long[CORNERS];
    private int corners;

    private boolean placeAtHand;
    private final Fraction handX = new Fraction();
    private final Fraction handY = new Fraction();

    private final Division division = new Division();
    private final Wide span = new Wide();
    private final Wide partOfFirst = new Wide();
    private final Wide partOfSecond = new Wide();

    public GridSums() {
        corners = 0;
        placeAtHand = false;
    }

    public int turn(long ax, long ay, long bx, long by, long cx, long cy) {
        if (!isOnGrid(ax, ay) || !isOnGrid(bx, by) || !isOnGrid(cx, cy)) {
            return REFUSED;
        }
        return sideOf(ax, ay, bx, by, cx, cy);
    }

    public boolean line(int k, long x0, long y0, long x1, long y1) {
        if (k < 0 || k >= LINES || !isOnGrid(x0, y0) || !isOnGrid(x1, y1)) {
            return false;
        }
        if (x0 == x1 && y0 == y1) {
            return false;
        }
        told[k] = true;
        startX[k] = x0;
        startY[k] = y0;
        wayX[k] = x1 - x0;
        wayY[k] = y1 - y0;
        return true;
    }

    public int cross(int a, int b) {
        if (!isTold(a) || !isTold(b)) {
            return BAD;
        }
        span.putSpan(wayX[a], wayY[a], wayX[b], wayY[b]);
        int answer = span.sign() == 0 ? meetOfParallels(a, b) : meetOfOthers(a, b);
        placeAtHand = answer == CROSSES;
        return answer;
    }

    public long at(int axis) {
        if (!isAnswerable(axis)) {
            return NONE;
        }
        Fraction value = axis == 0 ? handX : handY;
        return division.rounded(value.upper, value.lower, HALF_AWAY);
    }

    public long exact(int axis, int part, int limb) throws IndexOutOfBoundsException {
        if (!isAnswerable(axis) || part < 0 || part > 1) {
            return NONE;
        }
        Fraction value = axis == 0 ? handX : handY;
        return limbOf(part == 0 ? value.upper : value.lower, limb);
    }

    public boolean corner(long x, long y) {
        if (corners >= CORNERS || !isOnGrid(x, y)) {
            return false;
        }
        cornerX[corners] = x;
        cornerY[corners] = y;
        corners++;
        return true;
    }

    public long area2(int limb) throws IndexOutOfBoundsException {
        span.put(0);
        for (int i = 0; i < corners; i++) {
            int j = cornerBehind(i);
            span.addSpan(cornerX[i], cornerY[i], cornerX[j], cornerY[j]);
        }
        return limbOf(span, limb);
    }

    public int inside(long x, long y) {
        if (corners < 3 || !isOnGrid(x, y)) {
            return REFUSED;
        }
        boolean within = false;
        for (int i = 0; i < corners; i++) {
            int j = cornerBehind(i);
            int side = sideOf(cornerX[i], cornerY[i], cornerX[j], cornerY[j], x, y);
            if (side == 0 && isBetween(cornerX[i], x, cornerX[j]) && isBetween(cornerY[i], y, cornerY[j])) {
                return 0;
            }
            if (meetsRay(cornerY[i], cornerY[j], y, side)) {
                within = !within;
            }
        }
        return within ? 1 : -1;
    }

    public long over(long a, long b, int rule) throws ArithmeticException {
        return ratioByRule(a, 1, b, rule);
    }

    public long product(long a, long b, int limb) throws IndexOutOfBoundsException {
        span.put(0);
        span.addProduct(a, b);
        return limbOf(span, limb);
    }

    public long ratio(long a, long b, long c, int rule) throws ArithmeticException {
        return ratioByRule(a, b, c, rule);
    }

    public long share(long all, int k, int n) throws IndexOutOfBoundsException {
        if (n < 1 || n > MOST_SHARES) {
            return NONE;
        }
        if (k < 0 || k >= n) {
            throw new IndexOutOfBoundsException("no such share");
        }
        long divisor = n;
        long same = Math.floorDiv(all, divisor);
        return k < Math.floorMod(all, divisor) ? same + 1 : same;
    }

    public int digit(long a, int base, int k) throws IndexOutOfBoundsException {
        if (base < 2 || base > 36) {
            return BAD;
        }
        // Below 0, because the least number has no counterpart above 0.
        long rest = a < 0 ? a : -a;
        for (int i = 0; i < k && i < MOST_DIGITS; i++) {
            rest = rest / base;
        }
        if (k < 0 || k >= MOST_DIGITS || (k > 0 && rest == 0)) {
            throw new IndexOutOfBoundsException("no such digit");
        }
        return (int) -(rest % base);
    }

    public void clear() {
        for (int k = 0; k < LINES; k++) {
            told[k] = false;
        }
        corners = 0;
        placeAtHand = false;
    }

    public int count(int what) {
        switch (what) {
            case 0:
                return linesTold();
            case 1:
                return corners;
            case 2:
                return placeAtHand ? 1 : 0;
            default:
                return BAD;
        }
    }

    private static boolean isOnGrid(long x, long y) {
        return x >= -EDGE && x <= EDGE && y >= -EDGE && y <= EDGE;
    }

    private static boolean isBetween(long end, long value, long otherEnd) {
        return Math.min(end, otherEnd) <= value && value <= Math.max(end, otherEnd);
    }

    private boolean isTold(int k) {
        return k >= 0 && k < LINES && told[k];
    }

    private boolean isAnswerable(int axis) {
        return placeAtHand && (axis == 0 || axis == 1);
    }

    private int linesTold() {
        int sum = 0;
        for (int k = 0; k < LINES; k++) {
            if (told[k]) {
                sum++;
            }
        }
        return sum;
    }

    private int cornerBehind(int i) {
        return i + 1 < corners ? i + 1 : 0;
    }

    private int sideOf(long ax, long ay, long bx, long by, long cx, long cy) {
        span.putSpan(bx - ax, by - ay, cx - ax, cy - ay);
        return span.sign();
    }

    /**
     * Whether an edge meets the ray from a place to the right. An edge's lower end counts and its
     * upper end does not, so that a corner on the ray's height is not counted twice.
     */
    private static boolean meetsRay(long fromY, long toY, long y, int side) {
        if (fromY <= y && y < toY) {
            return side > 0;
        }
        return toY <= y && y < fromY && side < 0;
    }

    /** Two lines of different ways, their span not 0: each is met at a part of its way by the span. */
    private int meetOfOthers(int a, int b) {
        long gapX = startX[b] - startX[a];
        long gapY = startY[b] - startY[a];
        partOfFirst.putSpan(gapX, gapY, wayX[b], wayY[b]);
        partOfSecond.putSpan(gapX, gapY, wayX[a], wayY[a]);
        if (span.sign() < 0) {
            span.negate();
            partOfFirst.negate();
            partOfSecond.negate();
        }
        if (!isPartOfSpan(partOfFirst) || !isPartOfSpan(partOfSecond)) {
            return APART;
        }
        handX.putOnWay(startX[a], wayX[a], partOfFirst, span);
        handX.reduce(division);
        handY.putOnWay(startY[a], wayY[a], partOfFirst, span);
        handY.reduce(division);
        return CROSSES;
    }

    private boolean isPartOfSpan(Wide part) {
        return part.sign() >= 0 && part.compare(span) <= 0;
    }

    private int meetOfParallels(int a, int b) {
        span.putSpan(startX[b] - startX[a], startY[b] - startY[a], wayX[a], wayY[a]);
        if (span.sign() != 0) {
            return APART;
        }
        // Both are on one line: an axis along which it moves tells their order.
        boolean byX = wayX[a] != 0;
        long firstStart = byX ? startX[a] : startY[a];
        long firstEnd = firstStart + (byX ? wayX[a] : wayY[a]);
        long secondStart = byX ? startX[b] : startY[b];
        long secondEnd = secondStart + (byX ? wayX[b] : wayY[b]);
        long from = Math.max(Math.min(firstStart, firstEnd), Math.min(secondStart, secondEnd));
        long to = Math.min(Math.max(firstStart, firstEnd), Math.max(secondStart, secondEnd));
        if (from != to) {
            return from > to ? APART : ALONG;
        }
        boolean isStart = firstStart == from;
        handX.putWhole(isStart ? startX[a] : startX[a] + wayX[a]);
        handY.putWhole(isStart ? startY[a] : startY[a] + wayY[a]);
        return CROSSES;
    }

    private long ratioByRule(long a, long b, long c, int rule) {
        if (rule < DOWN || rule > HALF_EVEN) {
            return NONE;
        }
        if (c == 0) {
            throw new ArithmeticException("by 0");
        }
        partOfFirst.put(0);
        partOfFirst.addProduct(a, b);
        partOfSecond.put(c);
        return division.rounded(partOfFirst, partOfSecond, rule);
    }

    private static long limbOf(Wide number, int limb) {
        if (limb == -1) {
            return number.sign();
        }
        if (limb < 0 || limb >= number.limbs()) {
            throw new IndexOutOfBoundsException("no such limb");
        }
        return number.limbOfAmount(limb);
    }

    /**
     * A whole number of 128 bits in two's complement. The grid and 64-bit factors keep every
     * amount at 2^126 or below, so that its sign is never lost.
     */
    private static final class Wide {
        private long high;
        private long low;

        void put(long value) {
            low = value;
            high = value < 0 ? -1 : 0;
        }

        void copy(Wide other) {
            low = other.low;
            high = other.high;
        }

        void copyAmount(Wide other) {
            copy(other);
            if (high < 0) {
                negate();
            }
        }

        int sign() {
            if (high != 0) {
                return high < 0 ? -1 : 1;
            }
            return low == 0 ? 0 : 1;
        }

        boolean isOdd() {
            return (low & 1) != 0;
        }

        boolean isOne() {
            return high == 0 && low == 1;
        }

        int compare(Wide other) {
            if (high != other.high) {
                return high < other.high ? -1 : 1;
            }
            if (low == other.low) {
                return 0;
            }
            return isBelowUnsigned(low, other.low) ? -1 : 1;
        }

        void negate() {
            low = -low;
            high = low == 0 ? -high : ~high;
        }

        void addParts(long otherHigh, long otherLow) {
            low += otherLow;
            high += otherHigh;
            if (isBelowUnsigned(low, otherLow)) {
                high++;
            }
        }

        void subtract(Wide other) {
            if (isBelowUnsigned(low, other.low)) {
                high--;
            }
            low -= other.low;
            high -= other.high;
        }

        void addProduct(long a, long b) {
            addParts(highOfProduct(a, b), a * b);
        }

        /** The two ways' span: above 0 when the second one lies to the left. For places' ways only. */
        void addSpan(long firstX, long firstY, long secondX, long secondY) {
            addProduct(firstX, secondY);
            addProduct(-firstY, secondX);
        }

        void putSpan(long firstX, long firstY, long secondX, long secondY) {
            put(0);
            addSpan(firstX, firstY, secondX, secondY);
        }

        void addScaled(Wide other, long factor) {
            // The low word counts as a number without sign: 2^64 more than Java takes it for.
            long lowCorrection = other.low < 0 ? factor : 0;
            long scaledHigh = other.high * factor + highOfProduct(other.low, factor) + lowCorrection;
            addParts(scaledHigh, other.low * factor);
        }

        void twice() {
            high = (high << 1) | (low >>> 63);
            low = low << 1;
        }

        void half() {
            low = (low >>> 1) | (high << 63);
            high = high >> 1;
        }

        void setLowestBit() {
            low = low | 1;
        }

        int limbs() {
            long upperWord = highOfAmount();
            if (upperWord != 0) {
                return (upperWord >>> 32) != 0 ? 4 : 3;
            }
            return (lowOfAmount() >>> 32) != 0 ? 2 : 1;
        }

        long limbOfAmount(int limb) {
            long word = limb < 2 ? lowOfAmount() : highOfAmount();
            return (limb & 1) == 0 ? word & LIMB_MASK : word >>> 32;
        }

        private long lowOfAmount() {
            return high < 0 ? -low : low;
        }

        private long highOfAmount() {
            if (high >= 0) {
                return high;
            }
            return low == 0 ? -high : ~high;
        }

        private static boolean isBelowUnsigned(long a, long b) {
            return (a ^ SIGN_BIT) < (b ^ SIGN_BIT);
        }

        /** The upper 64 of the 128 bits of a product, by halves of 32 bits. */
        private static long highOfProduct(long a, long b) {
            long aLow = a & LIMB_MASK;
            long aHigh = a >> 32;
            long bLow = b & LIMB_MASK;
            long bHigh = b >> 32;
            long middle = aHigh * bLow + ((aLow * bLow) >>> 32);
            long otherMiddle = aLow * bHigh + (middle & LIMB_MASK);
            return aHigh * bHigh + (middle >> 32) + (otherMiddle >> 32);
        }
    }

    /** A fraction, the lower part above 0. */
    private static final class Fraction {
        private final Wide upper = new Wide();
        private final Wide lower = new Wide();

        void putWhole(long value) {
            upper.put(value);
            lower.put(1);
        }

        /** start + way * part / whole, not yet in least terms. */
        void putOnWay(long start, long way, Wide part, Wide whole) {
            upper.put(0);
            upper.addScaled(whole, start);
            upper.addScaled(part, way);
            lower.copy(whole);
        }

        void reduce(Division division) {
            division.findCommon(upper, lower);
            division.takeCommonOut(upper);
            division.takeCommonOut(lower);
        }
    }

    /** Quotients and common divisors of wide numbers, on wide numbers that are used again. */
    private static final class Division {
        private static final int MOST_BITS = 127;

        private final Wide quotient = new Wide();
        private final Wide rest = new Wide();
        private final Wide divisor = new Wide();
        private final Wide limit = new Wide();
        private final Wide common = new Wide();

        /** The quotient's lowest 64 bits; the lower number is not 0. */
        long rounded(Wide upper, Wide lower, int rule) {
            boolean isNegative = upper.sign() * lower.sign() < 0;
            divideAmounts(upper, lower);
            long amount = isOneMore(isNegative, rule) ? quotient.low + 1 : quotient.low;
            return isNegative ? -amount : amount;
        }

        /** Bit by bit: the divisor goes up as far as it fits, and comes back to where it was. */
        private void divideAmounts(Wide upper, Wide lower) {
            quotient.put(0);
            rest.copyAmount(upper);
            divisor.copyAmount(lower);
            limit.copy(rest);
            limit.half();
            int steps = 0;
            while (steps < MOST_BITS && divisor.compare(limit) <= 0) {
                divisor.twice();
                steps++;
            }
            for (int i = steps; i >= 0; i--) {
                quotient.twice();
                if (divisor.compare(rest) <= 0) {
                    rest.subtract(divisor);
                    quotient.setLowestBit();
                }
                if (i > 0) {
                    divisor.half();
                }
            }
        }

        private boolean isOneMore(boolean isNegative, int rule) {
            if (rest.sign() == 0) {
                return false;
            }
            switch (rule) {
                case DOWN:
                    return isNegative;
                case UP:
                    return !isNegative;
                case TOWARD_ZERO:
                    return false;
                case AWAY_FROM_ZERO:
                    return true;
                default:
                    return isOneMoreNearer(rule);
            }
        }

        private boolean isOneMoreNearer(int rule) {
            rest.twice();
            int order = rest.compare(divisor);
            if (order != 0) {
                return order > 0;
            }
            return rule == HALF_AWAY || (rule == HALF_EVEN && quotient.isOdd());
        }

        /**
         * The greatest common divisor of an amount and a number above 0, by halves and differences:
         * each step takes at least one bit from the two, which have 2 * MOST_BITS at most.
         */
        void findCommon(Wide upper, Wide lower) {
            rest.copyAmount(upper);
            common.copy(lower);
            int twos = 0;
            for (int i = 0; i < 2 * MOST_BITS && rest.sign() != 0; i++) {
                if (!rest.isOdd()) {
                    rest.half();
                    if (!common.isOdd()) {
                        common.half();
                        twos++;
                    }
                } else if (!common.isOdd()) {
                    common.half();
                } else {
                    takeLessFromGreater();
                }
            }
            for (int i = 0; i < twos; i++) {
                common.twice();
            }
        }

        /** Both are odd, so that the difference is even: without the half a step might take no bit. */
        private void takeLessFromGreater() {
            if (common.compare(rest) <= 0) {
                rest.subtract(common);
                rest.half();
            } else {
                common.subtract(rest);
                common.half();
            }
        }

        void takeCommonOut(Wide number) {
            if (common.isOne()) {
                return;
            }
            boolean isNegative = number.sign() < 0;
            divideAmounts(number, common);
            number.copy(quotient);
            if (isNegative) {
                number.negate();
            }
        }
    }
}

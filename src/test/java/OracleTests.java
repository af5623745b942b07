import java.math.BigInteger;

/** Many numbers, made by a fixed rule, against the same sums done with BigInteger. */
public final class OracleTests {
    private static final long[] MARKS = {
        0, 1, -1, 2, -2, 3, 7, 10, (1L << 31) - 1, 1L << 31, 1L << 32, -(1L << 32), (1L << 32) - 1,
        1L << 62, -(1L << 62), Long.MAX_VALUE, Long.MIN_VALUE, Long.MIN_VALUE + 1, Long.MAX_VALUE - 1,
    };

    private static long seed = 20261115;

    private OracleTests() {
    }

    public static void main(String[] args) {
        for (int i = 0; i < 4000; i++) {
            quotients(new GridSums(), number(), number(), number());
        }
        for (long a : MARKS) {
            for (long b : MARKS) {
                for (long c : MARKS) {
                    quotients(new GridSums(), a, b, c);
                }
            }
        }
        for (int i = 0; i < 20000; i++) {
            crossing(i % 3 == 0 ? 6 : i % 3 == 1 ? Check.EDGE : 1L << (1 + i % 40));
        }
        for (int i = 0; i < 3000; i++) {
            row(i % 2 == 0 ? 4 : 1L << (1 + i % 40));
        }
        for (int i = 0; i < 3000; i++) {
            digitsAndShares(number());
        }
        Check.end();
    }

    private static long next() {
        seed = seed * 6364136223846793005L + 1442695040888963407L;
        return seed ^ (seed >>> 29);
    }

    private static int below(int bound) {
        return (int) Math.floorMod(next() >> 7, (long) bound);
    }

    /** Of any length in bits, often a mark or next to one. */
    private static long number() {
        return below(4) == 0 ? MARKS[below(MARKS.length)] + below(3) - 1 : next() >> below(64);
    }

    private static long place(long reach) {
        if (below(8) == 0) {
            return below(2) == 0 ? reach : -reach;
        }
        return Math.floorMod(next() >> 7, 2 * reach + 1) - reach;
    }

    private static BigInteger big(long value) {
        return BigInteger.valueOf(value);
    }

    private static void quotients(GridSums sums, long a, long b, long c) {
        String text = a + ", " + b + ", " + c + ", ";
        dueLimbs("product(" + a + ", " + b + ", ", big(a).multiply(big(b)), limb -> sums.product(a, b, limb));
        for (int rule = -1; rule < 8; rule++) {
            int r = rule;
            Check.tell("ratio(" + text + r + ")", quotient(big(a).multiply(big(b)), big(c), r),
                Check.answerOf(() -> sums.ratio(a, b, c, r)));
            Check.tell("over(" + a + ", " + c + ", " + r + ")", quotient(big(a), big(c), r),
                Check.answerOf(() -> sums.over(a, c, r)));
        }
    }

    private static String quotient(BigInteger a, BigInteger b, int rule) {
        if (rule < 0 || rule > 6) {
            return Long.toString(Check.NONE);
        }
        if (b.signum() == 0) {
            return "throws." + Check.ARITHMETIC;
        }
        java.math.RoundingMode[] modes = {
            java.math.RoundingMode.FLOOR, java.math.RoundingMode.CEILING, java.math.RoundingMode.DOWN,
            java.math.RoundingMode.UP, java.math.RoundingMode.HALF_UP, java.math.RoundingMode.HALF_DOWN,
            java.math.RoundingMode.HALF_EVEN,
        };
        java.math.BigDecimal answer =
            new java.math.BigDecimal(a).divide(new java.math.BigDecimal(b), 0, modes[rule]);
        return Long.toString(answer.toBigIntegerExact().longValue());
    }

    private interface Limbs {
        long get(int limb);
    }

    private static void dueLimbs(String call, BigInteger number, Limbs limbs) {
        BigInteger amount = number.abs();
        int count = Math.max(1, (amount.bitLength() + 31) / 32);
        for (int limb = -2; limb <= 5; limb++) {
            int l = limb;
            String want;
            if (limb == -1) {
                want = Integer.toString(number.signum());
            } else if (limb < 0 || limb >= count) {
                want = "throws." + Check.INDEX;
            } else {
                want = Long.toString(amount.shiftRight(32 * limb).longValue() & 0xFFFFFFFFL);
            }
            Check.tell(call + limb + ")", want, Check.answerOf(() -> limbs.get(l)));
        }
    }

    private static void crossing(long reach) {
        long[] v = new long[8];
        for (int i = 0; i < 8; i++) {
            v[i] = place(reach);
        }
        if (below(4) == 0) {
            v[4] = v[0];
            v[5] = v[1];
        }
        GridSums sums = new GridSums();
        boolean first = sums.line(3, v[0], v[1], v[2], v[3]);
        boolean second = sums.line(8, v[4], v[5], v[6], v[7]);
        String text = java.util.Arrays.toString(v);
        Check.due("line 3 of " + text, v[0] != v[2] || v[1] != v[3], first);
        Check.due("line 8 of " + text, v[4] != v[6] || v[5] != v[7], second);
        if (!first || !second) {
            Check.due("untold of " + text, -1, sums.cross(3, 8));
            return;
        }
        int want = kindOfCrossing(v);
        Check.due("cross of " + text, want, sums.cross(3, 8));
        Check.due("count(2) of " + text, want == 1 ? 1 : 0, sums.count(2));
        if (want == 1) {
            dueSharedPlace(text, v, sums);
        }
    }

    private static int kindOfCrossing(long[] v) {
        int c = side(v[0], v[1], v[2], v[3], v[4], v[5]);
        int d = side(v[0], v[1], v[2], v[3], v[6], v[7]);
        int a = side(v[4], v[5], v[6], v[7], v[0], v[1]);
        int b = side(v[4], v[5], v[6], v[7], v[2], v[3]);
        if (c == 0 && d == 0) {
            return kindOnOneLine(v);
        }
        return c * d <= 0 && a * b <= 0 ? 1 : 0;
    }

    /** Places in the order of x, then y, as one number. */
    private static int kindOnOneLine(long[] v) {
        BigInteger p = key(v[0], v[1]);
        BigInteger q = key(v[2], v[3]);
        BigInteger r = key(v[4], v[5]);
        BigInteger s = key(v[6], v[7]);
        int order = p.min(q).max(r.min(s)).compareTo(p.max(q).min(r.max(s)));
        return order > 0 ? 0 : order == 0 ? 1 : 2;
    }

    private static BigInteger key(long x, long y) {
        return big(x).shiftLeft(64).add(big(y));
    }

    private static int side(long ax, long ay, long bx, long by, long cx, long cy) {
        BigInteger left = big(bx - ax).multiply(big(cy - ay));
        return left.compareTo(big(by - ay).multiply(big(cx - ax)));
    }

    /** The place is the one on both lines' equations, unless they are one: then an end in common. */
    private static void dueSharedPlace(String text, long[] v, GridSums sums) {
        BigInteger a1 = big(v[3] - v[1]);
        BigInteger b1 = big(v[0] - v[2]);
        BigInteger c1 = a1.multiply(big(v[0])).add(b1.multiply(big(v[1])));
        BigInteger a2 = big(v[7] - v[5]);
        BigInteger b2 = big(v[4] - v[6]);
        BigInteger c2 = a2.multiply(big(v[4])).add(b2.multiply(big(v[5])));
        BigInteger det = a1.multiply(b2).subtract(a2.multiply(b1));
        if (det.signum() == 0) {
            boolean start = v[0] == v[4] && v[1] == v[5] || v[0] == v[6] && v[1] == v[7];
            dueFraction(text, 0, big(start ? v[0] : v[2]), BigInteger.ONE, sums);
            dueFraction(text, 1, big(start ? v[1] : v[3]), BigInteger.ONE, sums);
            return;
        }
        dueFraction(text, 0, c1.multiply(b2).subtract(c2.multiply(b1)), det, sums);
        dueFraction(text, 1, a1.multiply(c2).subtract(a2.multiply(c1)), det, sums);
    }

    private static void dueFraction(String text, int axis, BigInteger above, BigInteger below, GridSums sums) {
        BigInteger common = above.gcd(below);
        BigInteger sign = big(below.signum());
        BigInteger upper = above.divide(common).multiply(sign);
        BigInteger lower = below.divide(common).multiply(sign);
        Check.tell("at(" + axis + ") of " + text, quotient(upper, lower, 4), Long.toString(sums.at(axis)));
        dueLimbs(text + " exact(" + axis + ", 0, ", upper, limb -> sums.exact(axis, 0, limb));
        dueLimbs(text + " exact(" + axis + ", 1, ", lower, limb -> sums.exact(axis, 1, limb));
    }

    private static void row(long reach) {
        int n = 3 + below(reach == 4 ? 8 : 62);
        long[] xs = new long[n];
        long[] ys = new long[n];
        GridSums sums = new GridSums();
        for (int i = 0; i < n; i++) {
            xs[i] = place(reach);
            ys[i] = place(reach);
            Check.due("corner", true, sums.corner(xs[i], ys[i]));
        }
        BigInteger area = BigInteger.ZERO;
        for (int i = 0; i < n; i++) {
            int j = (i + 1) % n;
            area = area.add(big(xs[j] - xs[i]).multiply(big(ys[j]).add(big(ys[i]))));
        }
        String text = java.util.Arrays.toString(xs) + java.util.Arrays.toString(ys);
        dueLimbs(text + " area2(", area.negate(), sums::area2);
        for (int i = 0; i < 40; i++) {
            long x = place(reach);
            long y = place(reach);
            Check.due(text + " inside(" + x + ", " + y + ")", within(xs, ys, x, y), sums.inside(x, y));
        }
    }

    /** The even-odd rule along a ray upward, not to the right as the program's. */
    private static int within(long[] xs, long[] ys, long x, long y) {
        boolean odd = false;
        for (int i = 0; i < xs.length; i++) {
            int j = (i + 1) % xs.length;
            int from = xs[i] <= xs[j] ? i : j;
            int to = from == i ? j : i;
            int side = side(xs[from], ys[from], xs[to], ys[to], x, y);
            boolean inHeight = Math.min(ys[i], ys[j]) <= y && y <= Math.max(ys[i], ys[j]);
            if (side == 0 && xs[from] <= x && x <= xs[to] && inHeight) {
                return 0;
            }
            if (xs[from] <= x && x < xs[to] && side < 0) {
                odd = !odd;
            }
        }
        return odd ? 1 : -1;
    }

    private static void digitsAndShares(long a) {
        GridSums sums = new GridSums();
        int base = 2 + below(35);
        String text = new StringBuilder(big(a).abs().toString(base)).reverse().toString();
        for (int k = 0; k < 66; k++) {
            int place = k;
            String want = k < text.length()
                ? Integer.toString(Character.digit(text.charAt(k), base)) : "throws." + Check.INDEX;
            Check.tell("digit(" + a + ", " + base + ", " + k + ")", want,
                Check.answerOf(() -> sums.digit(a, base, place)));
        }
        int n = below(2) == 0 ? 1 + below(40) : 1 + below(1000000);
        int k = below(n);
        BigInteger[] parts = big(a).subtract(big(a).mod(big(n))).divideAndRemainder(big(n));
        BigInteger left = big(a).mod(big(n));
        BigInteger want = left.compareTo(big(k)) > 0 ? parts[0].add(BigInteger.ONE) : parts[0];
        Check.due("share(" + a + ", " + k + ", " + n + ")", want.longValueExact(), sums.share(a, k, n));
    }
}

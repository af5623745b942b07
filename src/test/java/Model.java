import java.math.BigInteger;
import java.util.ArrayList;
import java.util.Arrays;
import java.util.List;

/**
 * The document's words once more, with BigInteger and by other ways than the class goes: crossings
 * by what of one line lies on the other, places within by their number of times round.
 */
final class Model {
    private static final String NONE = Long.toString(Check.NONE);
    private static final String BAD = "-1";
    private static final String REFUSED = "-2";

    private final long[][] lines = new long[16][];
    private final List<long[]> corners = new ArrayList<>();
    /** Upper and lower part of x, then of y; null when nothing is at hand. */
    private BigInteger[] hand = null;

    String turn(long[] v) {
        for (int i = 0; i < 6; i += 2) {
            if (!isPlace(v[i], v[i + 1])) {
                return REFUSED;
            }
        }
        return Integer.toString(side(v[0], v[1], v[2], v[3], v[4], v[5]).signum());
    }

    String line(int k, long x0, long y0, long x1, long y1) {
        boolean isOne = x0 == x1 && y0 == y1;
        if (k < 0 || k > 15 || !isPlace(x0, y0) || !isPlace(x1, y1) || isOne) {
            return "false";
        }
        lines[k] = new long[] {x0, y0, x1, y1};
        return "true";
    }

    String cross(int a, int b) {
        if (a < 0 || a > 15 || b < 0 || b > 15 || lines[a] == null || lines[b] == null) {
            return BAD;
        }
        hand = null;
        Stretch common = stretchOn(lines[a], lines[b]);
        int order = common.from.compareTo(common.to);
        if (order == 0) {
            long[] v = lines[b];
            Quotient x = common.from.onWay(v[0], v[2]);
            Quotient y = common.from.onWay(v[1], v[3]);
            hand = new BigInteger[] {x.upper, x.lower, y.upper, y.lower};
        }
        return order > 0 ? "0" : order == 0 ? "1" : "2";
    }

    String at(int axis) {
        if (hand == null || axis < 0 || axis > 1) {
            return NONE;
        }
        return quotient(hand[2 * axis], hand[2 * axis + 1], 4);
    }

    String exact(int axis, int part, int limb) {
        if (hand == null || axis < 0 || axis > 1 || part < 0 || part > 1) {
            return NONE;
        }
        return limb(hand[2 * axis + part], limb);
    }

    String corner(long x, long y) {
        return corners.size() < 64 && isPlace(x, y) ? Boolean.toString(corners.add(new long[] {x, y})) : "false";
    }

    /** Triangles from the first corner. */
    String area2(int limb) {
        BigInteger sum = BigInteger.ZERO;
        for (int i = 2; i < corners.size(); i++) {
            long[] a = corners.get(0);
            long[] b = corners.get(i - 1);
            long[] c = corners.get(i);
            sum = sum.add(side(a[0], a[1], b[0], b[1], c[0], c[1]));
        }
        return limb(sum, limb);
    }

    /** Counts quarters of a turn round the place; where a half is made, the side tells which way. */
    String inside(long x, long y) {
        if (corners.size() < 3 || !isPlace(x, y)) {
            return REFUSED;
        }
        int quarters = 0;
        for (int i = 0; i < corners.size(); i++) {
            long[] p = corners.get(i);
            long[] q = corners.get((i + 1) % corners.size());
            int side = side(p[0], p[1], q[0], q[1], x, y).signum();
            if (side == 0 && isWithin(p[0], x, q[0]) && isWithin(p[1], y, q[1])) {
                return "0";
            }
            int step = Math.floorMod(quarter(q[0] - x, q[1] - y) - quarter(p[0] - x, p[1] - y), 4);
            quarters += step == 3 ? -1 : step == 2 ? 2 * side : step;
        }
        return quarters / 4 % 2 == 0 ? "-1" : "1";
    }

    String over(long a, long b, int rule) {
        return ruled(big(a), big(b), rule);
    }

    String product(long a, long b, int limb) {
        return limb(big(a).multiply(big(b)), limb);
    }

    String ratio(long a, long b, long c, int rule) {
        return ruled(big(a).multiply(big(b)), big(c), rule);
    }

    String share(long all, int k, int n) {
        if (n < 1 || n > 1_000_000) {
            return NONE;
        }
        if (k < 0 || k > n - 1) {
            return "throws." + Check.INDEX;
        }
        BigInteger left = big(all).mod(big(n));
        BigInteger same = big(all).subtract(left).divide(big(n));
        return (big(k).compareTo(left) < 0 ? same.add(BigInteger.ONE) : same).toString();
    }

    String digit(long a, int base, int k) {
        if (base < 2 || base > 36) {
            return BAD;
        }
        String text = big(a).abs().toString(base);
        if (k < 0 || k > text.length() - 1) {
            return "throws." + Check.INDEX;
        }
        return Integer.toString(Character.digit(text.charAt(text.length() - 1 - k), 36));
    }

    String clear() {
        Arrays.fill(lines, null);
        corners.clear();
        hand = null;
        return "";
    }

    String count(int what) {
        long told = Arrays.stream(lines).filter(line -> line != null).count();
        return what == 0 ? Long.toString(told) : what == 1 ? Integer.toString(corners.size())
            : what == 2 ? (hand == null ? "0" : "1") : BAD;
    }

    private static BigInteger big(long value) {
        return BigInteger.valueOf(value);
    }

    private static boolean isPlace(long x, long y) {
        return isWithin(-Check.EDGE, x, Check.EDGE) && isWithin(-Check.EDGE, y, Check.EDGE);
    }

    private static boolean isWithin(long end, long value, long otherEnd) {
        return end <= value && value <= otherEnd || otherEnd <= value && value <= end;
    }

    private static BigInteger side(long ax, long ay, long bx, long by, long cx, long cy) {
        return big(bx - ax).multiply(big(cy - by)).subtract(big(by - ay).multiply(big(cx - bx)));
    }

    private static int quarter(long x, long y) {
        if (x > 0 && y >= 0) {
            return 0;
        }
        return x <= 0 && y > 0 ? 1 : x < 0 ? 2 : 3;
    }

    private static String limb(BigInteger number, int limb) {
        String bits = number.abs().toString(2);
        int count = (bits.length() + 31) / 32;
        if (limb < -1 || limb >= count) {
            return "throws." + Check.INDEX;
        }
        if (limb == -1) {
            return Integer.toString(number.signum());
        }
        int end = bits.length() - 32 * limb;
        return Long.toString(Long.parseLong(bits.substring(Math.max(0, end - 32), end), 2));
    }

    private static String ruled(BigInteger a, BigInteger b, int rule) {
        if (rule < 0 || rule > 6) {
            return NONE;
        }
        return b.signum() == 0 ? "throws." + Check.ARITHMETIC : quotient(a, b, rule);
    }

    /** Of the two whole numbers round the quotient (one, if it is whole) the one of the rule. */
    private static String quotient(BigInteger a, BigInteger b, int rule) {
        BigInteger upper = b.signum() < 0 ? a.negate() : a;
        BigInteger lower = b.abs();
        BigInteger rest = upper.mod(lower);
        BigInteger below = upper.subtract(rest).divide(lower);
        BigInteger above = rest.signum() == 0 ? below : below.add(BigInteger.ONE);
        BigInteger nearer = upper.signum() < 0 ? above : below;
        BigInteger farther = upper.signum() < 0 ? below : above;
        BigInteger even = below.testBit(0) ? above : below;
        int half = rest.shiftLeft(1).compareTo(lower);
        BigInteger near = half < 0 ? below : above;
        BigInteger[] answers = {
            below, above, nearer, farther,
            half == 0 ? farther : near, half == 0 ? nearer : near, half == 0 ? even : near,
        };
        return Long.toString(answers[rule].longValue());
    }

    /** What of line b lies on line a, in parts of b's way: from 0 to 1 at most. */
    private static Stretch stretchOn(long[] a, long[] b) {
        Stretch all = new Stretch(Quotient.of(0), Quotient.of(1));
        BigInteger start = side(a[0], a[1], a[2], a[3], b[0], b[1]);
        BigInteger end = side(a[0], a[1], a[2], a[3], b[2], b[3]);
        if (!start.equals(end)) {
            Quotient place = new Quotient(start, start.subtract(end));
            all = all.cut(place, place);
        } else if (start.signum() != 0) {
            return new Stretch(Quotient.of(1), Quotient.of(0));
        }
        return all.cutToReach(b[0], b[2], a[0], a[2]).cutToReach(b[1], b[3], a[1], a[3]);
    }

    /** Nothing, when it goes from more to less. */
    private record Stretch(Quotient from, Quotient to) {
        Stretch cut(Quotient least, Quotient most) {
            return new Stretch(from.compareTo(least) < 0 ? least : from, to.compareTo(most) > 0 ? most : to);
        }

        /** Where a way from start to end lies between two numbers. */
        Stretch cutToReach(long start, long end, long one, long other) {
            long least = Math.min(one, other);
            long most = Math.max(one, other);
            if (start == end) {
                return least <= start && start <= most ? this : new Stretch(Quotient.of(1), Quotient.of(0));
            }
            Quotient enters = new Quotient(big((start < end ? least : most) - start), big(end - start));
            Quotient leaves = new Quotient(big((start < end ? most : least) - start), big(end - start));
            return cut(enters, leaves);
        }
    }

    private static final class Quotient implements Comparable<Quotient> {
        final BigInteger upper;
        final BigInteger lower;

        Quotient(BigInteger above, BigInteger below) {
            BigInteger common = above.gcd(below);
            BigInteger divisor = below.signum() < 0 ? common.negate() : common;
            upper = above.divide(divisor);
            lower = below.divide(divisor);
        }

        static Quotient of(long value) {
            return new Quotient(big(value), BigInteger.ONE);
        }

        Quotient onWay(long start, long end) {
            return new Quotient(big(start).multiply(lower).add(big(end - start).multiply(upper)), lower);
        }

        @Override
        public int compareTo(Quotient other) {
            return upper.multiply(other.lower).compareTo(other.upper.multiply(lower));
        }
    }
}

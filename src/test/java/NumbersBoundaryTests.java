import java.util.function.ToLongFunction;

/** The boundary cases of promises 10 to 14, each sentence by a test of its own. */
public final class NumbersBoundaryTests {
    private static final long NONE = Check.NONE;
    private static final long LEAST = Check.LEAST;
    private static final long MOST = Check.MOST;
    private static final long HALF = 1L << 62;
    private static final long FULL_LIMB = 4294967295L;
    private static final int MILLION = 1000000;
    private static final int[] NO_RULES = {-1, 7, Integer.MIN_VALUE, Integer.MAX_VALUE};
    private static final int[] NO_BASES = {1, 37, 0, -1, -2, -10, Integer.MIN_VALUE, Integer.MAX_VALUE};
    private static final int[] NO_NUMBERS_OF_SHARES = {0, -1, MILLION + 1, Integer.MIN_VALUE, Integer.MAX_VALUE};

    private NumbersBoundaryTests() {
    }

    public static void main(String[] args) {
        Check.holds("Promise 10", "a by b, by a rule", NumbersBoundaryTests::overAroundAHalf);
        Check.holds("Promise 10", "a by b, by a rule", NumbersBoundaryTests::overOfTheGreatest);
        Check.holds("Promise 10", "(64 bits; what is beyond is lost)", NumbersBoundaryTests::overBeyond64Bits);
        Check.holds("Promise 10", "Throws Arithmetic: b is 0", NumbersBoundaryTests::overByZero);
        Check.holds("Promise 10", "(for a rule that there is)", NumbersBoundaryTests::overByZeroAndNoRule);
        Check.holds("Promise 10", "- 2^62 .. : another rule.", NumbersBoundaryTests::overAnotherRule);
        Check.holds("Promise 10", "(which may be one, too)", NumbersBoundaryTests::overMayBeOneToo);
        Check.holds("Promise 11", "a times b, by limbs.", NumbersBoundaryTests::productOfTheGreatest);
        Check.holds("Promise 11", "Throws IndexOutOfBounds: a limb that it has not.",
            NumbersBoundaryTests::productLimbs);
        Check.holds("Promise 11", "Throws IndexOutOfBounds: a limb that it has not.",
            NumbersBoundaryTests::productThrowChangesNothing);
        Check.holds("Promise 12", "a times b by c, by a rule, worked out without loss",
            NumbersBoundaryTests::ratioWithoutLoss);
        Check.holds("Promise 12", "a times b by c, by a rule, worked out without loss",
            NumbersBoundaryTests::ratioAroundAHalf);
        Check.holds("Promise 12", "(the quotient's 64 bits)", NumbersBoundaryTests::ratioBeyond64Bits);
        Check.holds("Promise 12", "- 2^62 .. : another rule", NumbersBoundaryTests::ratioAnotherRule);
        Check.holds("Promise 12", "(which may be one, too)", NumbersBoundaryTests::ratioMayBeOneToo);
        Check.holds("Promise 12", "else throws Arithmetic: c is 0.", NumbersBoundaryTests::ratioByZero);
        Check.holds("Promise 13", "(n 1 .. 1,000,000)", NumbersBoundaryTests::sharesOneToAMillion);
        Check.holds("Promise 13", "all the same, down, and 1 more for as many as are left over, the first ones.",
            NumbersBoundaryTests::sharesLeftOver);
        Check.holds("Promise 13", "all the same, down, and 1 more for as many as are left over, the first ones.",
            NumbersBoundaryTests::sharesOfTheGreatest);
        Check.holds("Promise 13", "Throws IndexOutOfBounds: k is not 0 .. n - 1.",
            NumbersBoundaryTests::shareOfNoSuchK);
        Check.holds("Promise 13", "- 2^62 .. : no such n.", NumbersBoundaryTests::shareOfNoSuchN);
        Check.holds("Promise 13", "(which may be one, too)", NumbersBoundaryTests::shareMayBeOneToo);
        Check.holds("Promise 14", "Digit k, from the lowest one", NumbersBoundaryTests::digitsOfAllBases);
        Check.holds("Promise 14", "(a, or - a below 0; 2^63 for the least one)",
            NumbersBoundaryTests::digitsOfTheLeast);
        Check.holds("Promise 14", "to a base 2 .. 36", NumbersBoundaryTests::digitsToTheFirstAndLastBase);
        Check.holds("Promise 14", "Throws IndexOutOfBounds: a digit that it has not",
            NumbersBoundaryTests::digitThatItHasNot);
        Check.holds("Promise 14", "(0 has one)", NumbersBoundaryTests::zeroHasOneDigit);
        Check.holds("Promise 14", "BAD: another base.", NumbersBoundaryTests::digitToAnotherBase);
        Check.end();
    }

    /** Just below a half, a half, just above it, of the greatest divisors. */
    private static void overAroundAHalf() {
        dueOver(HALF - 1, MOST, 0, 1, 0, 1, 0, 0, 0);
        dueOver(HALF, MOST, 0, 1, 0, 1, 1, 1, 1);
        dueOver(HALF - 1, LEAST, -1, 0, 0, -1, 0, 0, 0);
        dueOver(HALF, LEAST, -1, 0, 0, -1, -1, 0, 0);
        dueOver(HALF + 1, LEAST, -1, 0, 0, -1, -1, -1, -1);
        dueOver(-HALF, LEAST, 0, 1, 0, 1, 1, 0, 0);
        dueOver(1, 2, 0, 1, 0, 1, 1, 0, 0);
        dueOver(3, 2, 1, 2, 1, 2, 2, 1, 2);
        dueOver(-1, 2, -1, 0, 0, -1, -1, 0, 0);
        dueOver(-3, 2, -2, -1, -1, -2, -2, -1, -2);
        dueOver(MOST, 2, HALF - 1, HALF, HALF - 1, HALF, HALF, HALF - 1, HALF);
        dueOver(LEAST + 1, 2, -HALF, 1 - HALF, 1 - HALF, -HALF, -HALF, 1 - HALF, -HALF);
    }

    private static void overOfTheGreatest() {
        dueOverAll(LEAST + 1, -1, MOST);
        dueOverAll(MOST, -1, LEAST + 1);
        dueOverAll(MOST, 1, MOST);
        dueOverAll(LEAST, 1, LEAST);
        dueOverAll(LEAST, -2, HALF);
        dueOverAll(LEAST, LEAST, 1);
        dueOverAll(MOST, MOST, 1);
        dueOverAll(0, LEAST, 0);
        dueOverAll(0, -1, 0);
        dueOver(LEAST, MOST, -2, -1, -1, -2, -1, -1, -1);
        dueOver(MOST, LEAST, -1, 0, 0, -1, -1, -1, -1);
        dueOver(1, MOST, 0, 1, 0, 1, 0, 0, 0);
        dueOver(-1, MOST, -1, 0, 0, -1, 0, 0, 0);
        dueOver(1, LEAST, -1, 0, 0, -1, 0, 0, 0);
        dueOver(-1, LEAST, 0, 1, 0, 1, 0, 0, 0);
        dueOver(MOST, MOST - 1, 1, 2, 1, 2, 1, 1, 1);
    }

    /** 2^63 is the only quotient of two such numbers that 64 bits do not hold. */
    private static void overBeyond64Bits() {
        dueOverAll(LEAST, -1, LEAST);
        dueOverAll(LEAST + 1, -1, MOST);
    }

    private static void dueOverAll(long a, long b, long want) {
        dueOver(a, b, want, want, want, want, want, want, want);
    }

    private static void dueOver(long a, long b, long... wants) {
        for (int rule = 0; rule < 7; rule++) {
            Check.due("over(" + a + ", " + b + ", " + rule + ")", wants[rule], new GridSums().over(a, b, rule));
        }
    }

    private static void overByZero() {
        long[] numbers = {0, 1, -1, MOST, LEAST};
        for (int rule = 0; rule < 7; rule++) {
            int r = rule;
            for (long a : numbers) {
                Check.dueThrow("over(" + a + ", 0, " + r + ")", Check.ARITHMETIC, () -> new GridSums().over(a, 0, r));
            }
            Twins.throwsAndChangesNothing("over(5, 0, " + r + ")", Check.ARITHMETIC, sums -> sums.over(5, 0, r));
            Check.due("over(5, 1, " + r + ")", 5, new GridSums().over(5, 1, r));
            Check.due("over(5, -1, " + r + ")", -5, new GridSums().over(5, -1, r));
        }
    }

    private static void overByZeroAndNoRule() {
        for (int rule : NO_RULES) {
            Twins.changesNothing("over(5, 0, " + rule + ")", NONE, sums -> sums.over(5, 0, rule));
            Twins.changesNothing("over(0, 0, " + rule + ")", NONE, sums -> sums.over(0, 0, rule));
        }
    }

    private static void overAnotherRule() {
        for (int rule : NO_RULES) {
            Twins.changesNothing("over(5, 2, " + rule + ")", NONE, sums -> sums.over(5, 2, rule));
            Check.due("over(LEAST, -1, " + rule + ")", NONE, new GridSums().over(LEAST, -1, rule));
        }
        Twins.changesNothing("over(5, 2, 0)", 2, sums -> sums.over(5, 2, 0));
        Twins.changesNothing("over(5, 2, 6)", 2, sums -> sums.over(5, 2, 6));
    }

    private static void overMayBeOneToo() {
        dueOverAll(-HALF, 1, NONE);
        dueOverAll(HALF, -1, NONE);
        dueOverAll(LEAST, 2, NONE);
    }

    private static void productOfTheGreatest() {
        dueProduct(MOST, MOST, 1, 1, 0, FULL_LIMB, 1073741823);
        dueProduct(LEAST, LEAST, 1, 0, 0, 0, 1 << 30);
        dueProduct(LEAST, MOST, -1, 0, 1L << 31, FULL_LIMB, 1073741823);
        dueProduct(MOST, LEAST, -1, 0, 1L << 31, FULL_LIMB, 1073741823);
        dueProduct(LEAST, -1, 1, 0, 1L << 31);
        dueProduct(LEAST, 1, -1, 0, 1L << 31);
        dueProduct(MOST, -1, -1, FULL_LIMB, 2147483647);
        dueProduct(LEAST, 2, -1, 0, 0, 1);
        dueProduct(MOST, 2, 1, 4294967294L, FULL_LIMB);
        dueProduct(LEAST, 0, 0, 0);
        dueProduct(0, MOST, 0, 0);
        dueProduct(0, 0, 0, 0);
        dueProduct(1, -1, -1, 1);
    }

    /** The last number of one, two and three limbs and the first one of a limb more. */
    private static void productLimbs() {
        dueProduct(65535, 65537, 1, FULL_LIMB);
        dueProduct(65536, 65536, 1, 0, 1);
        dueProduct(-65535, 65537, -1, FULL_LIMB);
        dueProduct(65536, -65536, -1, 0, 1);
        dueProduct((1L << 32) - 1, (1L << 32) + 1, 1, FULL_LIMB, FULL_LIMB);
        dueProduct(1L << 32, 1L << 32, 1, 0, 0, 1);
        dueProduct(1 - (1L << 32), (1L << 32) + 1, -1, FULL_LIMB, FULL_LIMB);
        dueProduct(1L << 32, -(1L << 32), -1, 0, 0, 1);
        dueProduct((1L << 48) - 1, (1L << 48) + 1, 1, FULL_LIMB, FULL_LIMB, FULL_LIMB);
        dueProduct(1L << 48, 1L << 48, 1, 0, 0, 0, 1);
        dueProduct((1L << 48) - 1, -1 - (1L << 48), -1, FULL_LIMB, FULL_LIMB, FULL_LIMB);
        dueProduct(1L << 48, -(1L << 48), -1, 0, 0, 0, 1);
    }

    private static void dueProduct(long a, long b, int sign, long... limbs) {
        Check.dueLimbs("product of " + a + ", " + b, limb -> new GridSums().product(a, b, limb), sign, limbs);
    }

    private static void productThrowChangesNothing() {
        int[] none = {-2, 1, 4, Integer.MIN_VALUE, Integer.MAX_VALUE};
        for (int limb : none) {
            Twins.throwsAndChangesNothing("product(3, 5, " + limb + ")", Check.INDEX,
                sums -> sums.product(3, 5, limb));
        }
        Twins.throwsAndChangesNothing("product(2^63, 2^63, 4)", Check.INDEX, sums -> sums.product(LEAST, LEAST, 4));
        Twins.changesNothing("product(2^63, 2^63, 3)", 1 << 30, sums -> sums.product(LEAST, LEAST, 3));
        Twins.changesNothing("product(3, -5, -1)", -1, sums -> sums.product(3, -5, -1));
    }

    /** Products of up to 126 bits whose quotients have 64. */
    private static void ratioWithoutLoss() {
        dueRatioAll(MOST, MOST, MOST, MOST);
        dueRatioAll(LEAST, LEAST, LEAST, LEAST);
        dueRatioAll(LEAST, MOST, MOST, LEAST);
        dueRatioAll(LEAST, MOST, LEAST, MOST);
        dueRatioAll(MOST, MOST - 1, MOST, MOST - 1);
        dueRatioAll(1L << 32, 1L << 32, 1L << 40, 1 << 24);
        dueRatio(MOST, MOST, LEAST, LEAST + 1, LEAST + 2, LEAST + 2, LEAST + 1, LEAST + 2, LEAST + 2, LEAST + 2);
        dueRatio(MOST, MOST - 2, MOST - 1, MOST - 2, MOST - 1, MOST - 2, MOST - 1, MOST - 1, MOST - 1, MOST - 1);
        dueRatioAll(0, LEAST, -1, 0);
        dueRatioAll(LEAST, 0, LEAST, 0);
    }

    private static void ratioAroundAHalf() {
        dueRatio(3, MOST, 6, HALF - 1, HALF, HALF - 1, HALF, HALF, HALF - 1, HALF);
        dueRatio(HALF, 1, LEAST, -1, 0, 0, -1, -1, 0, 0);
        dueRatio(HALF, 3, LEAST, -2, -1, -1, -2, -2, -1, -2);
        dueRatio(HALF, -3, LEAST, 1, 2, 1, 2, 2, 1, 2);
        dueRatio(HALF - 1, 1, MOST, 0, 1, 0, 1, 0, 0, 0);
        dueRatio(HALF, 1, MOST, 0, 1, 0, 1, 1, 1, 1);
        dueRatio(-HALF, 1, MOST, -1, 0, 0, -1, -1, -1, -1);
        dueRatio(5, 1, -2, -3, -2, -2, -3, -3, -2, -2);
        dueRatio(-5, -1, 2, 2, 3, 2, 3, 3, 2, 2);
    }

    /** 2^63, 2^64 - 1, 2^64 and more; the rounding itself may go beyond. */
    private static void ratioBeyond64Bits() {
        dueRatioAll(LEAST, -1, 1, LEAST);
        dueRatioAll(1L << 32, 1L << 31, 1, LEAST);
        dueRatioAll(1L << 32, -(1L << 31), 1, LEAST);
        dueRatioAll((1L << 32) - 1, (1L << 32) + 1, 1, -1);
        dueRatioAll(1 - (1L << 32), (1L << 32) + 1, 1, 1);
        dueRatioAll(1L << 32, 1L << 32, 1, 0);
        dueRatioAll(MOST, MOST, 1, 1);
        dueRatioAll(MOST, LEAST, 1, LEAST);
        dueRatioAll(LEAST, LEAST, 1, 0);
        dueRatioAll(LEAST, LEAST, -1, 0);
        dueRatio(LEAST, LEAST, MOST, LEAST + 1, LEAST + 2, LEAST + 1, LEAST + 2, LEAST + 1, LEAST + 1, LEAST + 1);
        dueRatio(MOST, MOST, 2, LEAST, LEAST + 1, LEAST, LEAST + 1, LEAST + 1, LEAST, LEAST);
        dueRatio(MOST, -MOST, 2, MOST, LEAST, LEAST, MOST, MOST, LEAST, LEAST);
        // 2^65 - 1 by 2: between 2^64 - 1 and 2^64.
        dueRatio(253921, 145295143558111L, 2, -1, 0, -1, 0, 0, -1, 0);
        dueRatio(-253921, 145295143558111L, 2, 0, 1, 1, 0, 0, 1, 0);
        dueRatio(253921, 145295143558111L, -2, 0, 1, 1, 0, 0, 1, 0);
    }

    private static void dueRatioAll(long a, long b, long c, long want) {
        dueRatio(a, b, c, want, want, want, want, want, want, want);
    }

    private static void dueRatio(long a, long b, long c, long... wants) {
        for (int rule = 0; rule < 7; rule++) {
            String call = c + ", " + rule + ")";
            Check.due("ratio(" + a + ", " + b + ", " + call, wants[rule], new GridSums().ratio(a, b, c, rule));
            Check.due("ratio(" + b + ", " + a + ", " + call, wants[rule], new GridSums().ratio(b, a, c, rule));
        }
    }

    private static void ratioAnotherRule() {
        for (int rule : NO_RULES) {
            Twins.changesNothing("ratio(5, 3, 2, " + rule + ")", NONE, sums -> sums.ratio(5, 3, 2, rule));
            Twins.changesNothing("ratio(5, 3, 0, " + rule + ")", NONE, sums -> sums.ratio(5, 3, 0, rule));
            Twins.changesNothing("ratio(0, 0, 0, " + rule + ")", NONE, sums -> sums.ratio(0, 0, 0, rule));
        }
        Twins.changesNothing("ratio(5, 3, 2, 0)", 7, sums -> sums.ratio(5, 3, 2, 0));
        Twins.changesNothing("ratio(5, 3, 2, 6)", 8, sums -> sums.ratio(5, 3, 2, 6));
    }

    private static void ratioMayBeOneToo() {
        dueRatioAll(LEAST, 1, 2, NONE);
        dueRatioAll(1L << 31, -(1L << 31), 1, NONE);
        dueRatioAll(HALF, 3, 1, NONE);
        dueRatioAll(HALF, MOST, -MOST, NONE);
    }

    private static void ratioByZero() {
        long[] numbers = {0, 1, -1, MOST, LEAST};
        for (int rule = 0; rule < 7; rule++) {
            int r = rule;
            for (long a : numbers) {
                Check.dueThrow("ratio(" + a + ", 3, 0, " + r + ")", Check.ARITHMETIC,
                    () -> new GridSums().ratio(a, 3, 0, r));
            }
            Twins.throwsAndChangesNothing("ratio(5, 3, 0, " + r + ")", Check.ARITHMETIC,
                sums -> sums.ratio(5, 3, 0, r));
            Check.due("ratio(5, 3, 1, " + r + ")", 15, new GridSums().ratio(5, 3, 1, r));
            Check.due("ratio(5, 3, -1, " + r + ")", -15, new GridSums().ratio(5, 3, -1, r));
        }
    }

    private static void sharesOneToAMillion() {
        dueShare(7, 0, 1, 7);
        dueShare(-7, 0, 1, -7);
        dueShare(MILLION + 2, 1, MILLION, 2);
        dueShare(MILLION + 2, 2, MILLION, 1);
        dueShare(MILLION + 2, MILLION - 1, MILLION, 1);
        dueShare(7, 0, MILLION - 1, 1);
        Twins.changesNothing("share(7, 0, 1)", 7, sums -> sums.share(7, 0, 1));
        Twins.changesNothing("share(7, 999999, 1000000)", 0, sums -> sums.share(7, MILLION - 1, MILLION));
    }

    /** None left over, one, all but one; above 0 and below. */
    private static void sharesLeftOver() {
        dueShares(0, 0, 0, 0, 0);
        dueShares(1, 1, 0, 0, 0);
        dueShares(3, 1, 1, 1, 0);
        dueShares(4, 1, 1, 1, 1);
        dueShares(5, 2, 1, 1, 1);
        dueShares(-1, 0, 0, 0, -1);
        dueShares(-3, 0, -1, -1, -1);
        dueShares(-4, -1, -1, -1, -1);
        dueShares(-5, -1, -1, -1, -2);
        dueShare(MILLION - 1, MILLION - 2, MILLION, 1);
        dueShare(MILLION - 1, MILLION - 1, MILLION, 0);
        dueShare(-1, MILLION - 2, MILLION, 0);
        dueShare(-1, MILLION - 1, MILLION, -1);
    }

    private static void sharesOfTheGreatest() {
        dueShares(MOST, MOST);
        dueShares(LEAST, LEAST);
        dueShares(MOST, HALF, HALF - 1);
        dueShares(LEAST, -HALF, -HALF);
        dueShares(LEAST + 1, 1 - HALF, -HALF);
        dueShares(MOST, 3074457345618258603L, 3074457345618258602L, 3074457345618258602L);
        dueShares(LEAST, -3074457345618258602L, -3074457345618258603L, -3074457345618258603L);
        dueShare(MOST, 775806, MILLION, 9223372036855L);
        dueShare(MOST, 775807, MILLION, 9223372036854L);
        dueShare(LEAST, 224191, MILLION, -9223372036854L);
        dueShare(LEAST, 224192, MILLION, -9223372036855L);
    }

    private static void dueShares(long all, long... shares) {
        for (int k = 0; k < shares.length; k++) {
            dueShare(all, k, shares.length, shares[k]);
        }
    }

    private static void dueShare(long all, int k, int n, long want) {
        Check.tell("share(" + all + ", " + k + ", " + n + ")", Long.toString(want),
            Check.answerOf(() -> new GridSums().share(all, k, n)));
    }

    private static void shareOfNoSuchK() {
        int[] numbers = {1, 2, 3, MILLION};
        for (int n : numbers) {
            dueShare(-1, 0, n, n == 1 ? -1 : 0);
            dueShare(-1, n - 1, n, -1);
            int[] none = {-1, n, n + 1, Integer.MIN_VALUE, Integer.MAX_VALUE};
            for (int k : none) {
                Twins.throwsAndChangesNothing("share(9, " + k + ", " + n + ")", Check.INDEX,
                    sums -> sums.share(9, k, n));
            }
        }
    }

    /** A k that there is for no n, too: no throw, as there is no n to hold it against. */
    private static void shareOfNoSuchN() {
        for (int n : NO_NUMBERS_OF_SHARES) {
            Twins.changesNothing("share(9, 0, " + n + ")", NONE, sums -> sums.share(9, 0, n));
            Check.due("share(LEAST, 0, " + n + ")", NONE, new GridSums().share(LEAST, 0, n));
            Twins.changesNothing("share(9, -1, " + n + ")", NONE, sums -> sums.share(9, -1, n));
            Twins.changesNothing("share(9, 2^31 - 1, " + n + ")", NONE,
                sums -> sums.share(9, Integer.MAX_VALUE, n));
        }
    }

    private static void shareMayBeOneToo() {
        dueShares(NONE, NONE);
        dueShares(LEAST, NONE, NONE);
        dueShares(LEAST + 1, NONE + 1, NONE);
    }

    /** base^j - 1 has j digits, all the greatest one; base^j has one more: 1 and zeros. */
    private static void digitsOfAllBases() {
        for (int base = 2; base <= 36; base++) {
            long power = base;
            for (int j = 1; power < Integer.MAX_VALUE; j++) {
                dueDigits(power - 1, base, sameDigits(j, base - 1, base - 1));
                dueDigits(power, base, sameDigits(j + 1, 0, 1));
                dueDigits(-power, base, sameDigits(j + 1, 0, 1));
                power *= base;
            }
        }
        dueDigits(1234567890, 10, 0, 9, 8, 7, 6, 5, 4, 3, 2, 1);
        Twins.changesNothing("digit(1050, 10, 3)", 1, sums -> sums.digit(1050, 10, 3));
    }

    /** Of n digits the last, highest one may be another. */
    private static int[] sameDigits(int n, int digit, int last) {
        int[] digits = new int[n];
        java.util.Arrays.fill(digits, digit);
        digits[n - 1] = last;
        return digits;
    }

    private static void digitsOfTheLeast() {
        dueDigits(LEAST, 10, 8, 0, 8, 5, 7, 7, 4, 5, 8, 6, 3, 0, 2, 7, 3, 3, 2, 2, 9);
        dueDigits(LEAST + 1, 10, 7, 0, 8, 5, 7, 7, 4, 5, 8, 6, 3, 0, 2, 7, 3, 3, 2, 2, 9);
        dueDigits(MOST, 10, 7, 0, 8, 5, 7, 7, 4, 5, 8, 6, 3, 0, 2, 7, 3, 3, 2, 2, 9);
        dueDigits(LEAST, 2, sameDigits(64, 0, 1));
        dueDigits(LEAST + 1, 2, sameDigits(63, 1, 1));
        dueDigits(MOST, 2, sameDigits(63, 1, 1));
        dueDigits(LEAST, 16, sameDigits(16, 0, 8));
        dueDigits(LEAST, 8, sameDigits(22, 0, 1));
        dueDigits(-1, 10, 1);
        dueDigits(-10, 10, 0, 1);
        dueDigits(LEAST, 36, 8, 14, 8, 14, 2, 3, 19, 18, 0, 25, 2, 34, 1);
    }

    private static void digitsToTheFirstAndLastBase() {
        dueDigits(1, 2, 1);
        dueDigits(2, 2, 0, 1);
        dueDigits(6, 2, 0, 1, 1);
        dueDigits(35, 36, 35);
        dueDigits(36, 36, 0, 1);
        dueDigits(-1295, 36, 35, 35);
        dueDigits(1296, 36, 0, 0, 1);
        dueDigits(MOST, 36, 7, 14, 8, 14, 2, 3, 19, 18, 0, 25, 2, 34, 1);
        dueDigits(35, 35, 0, 1);
        dueDigits(3, 3, 0, 1);
    }

    private static void dueDigits(long a, int base, int... digits) {
        for (int k = 0; k < digits.length; k++) {
            int place = k;
            Check.tell("digit(" + a + ", " + base + ", " + k + ")", Integer.toString(digits[k]),
                Check.answerOf(() -> new GridSums().digit(a, base, place)));
        }
        int[] none = {-1, digits.length, digits.length + 1, 64, 65, Integer.MIN_VALUE, Integer.MAX_VALUE};
        for (int k : none) {
            Check.dueThrow("digit(" + a + ", " + base + ", " + k + ")", Check.INDEX,
                () -> new GridSums().digit(a, base, k));
        }
    }

    private static void digitThatItHasNot() {
        dueNoDigit("digit(99, 10, ", 2, k -> sums -> sums.digit(99, 10, k));
        dueNoDigit("digit(-100, 10, ", 3, k -> sums -> sums.digit(-100, 10, k));
        dueNoDigit("digit(LEAST, 2, ", 64, k -> sums -> sums.digit(LEAST, 2, k));
        dueNoDigit("digit(MOST, 2, ", 63, k -> sums -> sums.digit(MOST, 2, k));
        dueNoDigit("digit(LEAST, 36, ", 13, k -> sums -> sums.digit(LEAST, 36, k));
    }

    private interface AskOf {
        ToLongFunction<GridSums> digit(int k);
    }

    private static void dueNoDigit(String call, int digits, AskOf ask) {
        int[] none = {-1, digits, digits + 1, Integer.MIN_VALUE, Integer.MAX_VALUE};
        for (int k : none) {
            Twins.throwsAndChangesNothing(call + k + ")", Check.INDEX, ask.digit(k));
        }
        Check.due(call + (digits - 1) + ") is there", true,
            ask.digit(digits - 1).applyAsLong(new GridSums()) > 0);
    }

    private static void zeroHasOneDigit() {
        for (int base = 2; base <= 36; base++) {
            dueDigits(0, base, 0);
        }
        Twins.throwsAndChangesNothing("digit(0, 10, 1)", Check.INDEX, sums -> sums.digit(0, 10, 1));
        Twins.throwsAndChangesNothing("digit(0, 10, -1)", Check.INDEX, sums -> sums.digit(0, 10, -1));
    }

    /** A digit that there is for no base, too: no throw, as there is no base to count it by. */
    private static void digitToAnotherBase() {
        int[] places = {0, 1, -1, 64, Integer.MIN_VALUE, Integer.MAX_VALUE};
        for (int base : NO_BASES) {
            Twins.changesNothing("digit(10, " + base + ", 0)", GridSums.BAD, sums -> sums.digit(10, base, 0));
            for (int k : places) {
                Check.due("digit(10, " + base + ", " + k + ")", GridSums.BAD, new GridSums().digit(10, base, k));
                Check.due("digit(0, " + base + ", " + k + ")", GridSums.BAD, new GridSums().digit(0, base, k));
            }
        }
    }
}

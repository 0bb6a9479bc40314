import java.math.BigInteger;

/** Promises 13 (isEnough) and 14 (least), every least cost there is among them. */
public final class EnoughTest {
    private static final int LEAST = Integer.MIN_VALUE;
    private static final int MOST = Integer.MAX_VALUE;
    private static final int BITS = 200;
    private static final Check check = new Check();

    public static void main(String[] args) {
        knowsSomeByHeart();
        refusesOtherCosts();
        for (int b = 2; b <= 10; b++) {
            for (int a = 1; a < b; a++) {
                findsEveryLeast(a, b, logarithm(a, b));
            }
        }
        check.end();
    }

    private static void knowsSomeByHeart() {
        PrivateCounts x = new PrivateCounts();
        check.due("isEnough(0, 1)", x.isEnough(0, 1), false);
        check.due("isEnough(0, 1000)", x.isEnough(0, 1000), false);
        check.due("isEnough(693, 1000)", x.isEnough(693, 1000), false);
        check.due("isEnough(694, 1000)", x.isEnough(694, 1000), true);
        check.due("isEnough(3000, 1)", x.isEnough(3000, 1), true);
        check.due("isEnough(1, 1)", x.isEnough(1, 1), true);
        check.due("least(1)", x.least(1), 1);
        check.due("least(1000)", x.least(1000), 694);
        x.table(1, 10, 0, 0);
        check.due("least(1)", x.least(1), 3);
        check.due("least(1000)", x.least(1000), 2303);
        check.due("isEnough(2302, 1000)", x.isEnough(2302, 1000), false);
        check.due("isEnough(2303, 1000)", x.isEnough(2303, 1000), true);
        check.due("isEnough(3000, 1000)", x.isEnough(3000, 1000), true);
        check.due("isEnough(2, 1)", x.isEnough(2, 1), false);
        x.table(9, 10, 0, 0);
        check.due("least(1)", x.least(1), 1);
        check.due("least(1000)", x.least(1000), 106);
        check.due("isEnough(1, 1000)", x.isEnough(1, 1000), false);
    }

    private static void refusesOtherCosts() {
        PrivateCounts x = new PrivateCounts();
        for (int p : new int[] {-1, 3001, LEAST, MOST}) {
            check.throwsIllegalArgument("isEnough(" + p + ", 1)", () -> x.isEnough(p, 1));
        }
        for (int q : new int[] {0, -1, 1001, LEAST, MOST}) {
            check.throwsIllegalArgument("isEnough(1, " + q + ")", () -> x.isEnough(1, q));
            check.throwsIllegalArgument("isEnough(0, " + q + ")", () -> x.isEnough(0, q));
            check.throwsIllegalArgument("isEnough(-1, " + q + ")", () -> x.isEnough(-1, q));
            check.throwsIllegalArgument("least(" + q + ")", () -> x.least(q));
        }
        check.due("nothing was refused", x.told(1) + x.told(2), 0);
    }

    private static void findsEveryLeast(int a, int b, BigInteger scaled) {
        PrivateCounts x = null;
        for (int q = 1; q <= 1000; q++) {
            if (q % 50 == 1) {
                x = new PrivateCounts();
                x.table(a, b, -3, 3);
            }
            BigInteger wanted = scaled.multiply(BigInteger.valueOf(q));
            int least = wanted.shiftRight(BITS).intValueExact() + 1;
            // The logarithm is right to some few of its last bits: no least p hangs on these.
            BigInteger rest = wanted.subtract(wanted.shiftRight(BITS).shiftLeft(BITS));
            check.due("the test's own bits", rest.bitLength() > 100
                && BigInteger.ONE.shiftLeft(BITS).subtract(rest).bitLength() > 100, true);
            String of = "a " + a + ", b " + b + ", q " + q;
            check.due(of + ": least", x.least(q), least);
            for (int p : new int[] {0, least / 2, least - 1, least, least + 1, 2 * least, 3 * q, 3000}) {
                int cost = Math.min(p, 3000);
                check.due(of + ": isEnough of " + cost, x.isEnough(cost, q), cost >= least);
            }
        }
    }

    /** The natural logarithm of b / a times 2^BITS, by another series than the program's. */
    private static BigInteger logarithm(int a, int b) {
        // ln(b / a) = 2 (t + t^3 / 3 + t^5 / 5 + ..) with t = (b - a) / (b + a)
        BigInteger up = BigInteger.valueOf(b - a);
        BigInteger down = BigInteger.valueOf(b + a);
        BigInteger power = BigInteger.ONE.shiftLeft(BITS + 40).multiply(up).divide(down);
        BigInteger sum = BigInteger.ZERO;
        for (int k = 1; power.signum() > 0; k += 2) {
            sum = sum.add(power.divide(BigInteger.valueOf(k)));
            power = power.multiply(up).multiply(up).divide(down).divide(down);
        }
        return sum.shiftLeft(1).shiftRight(40);
    }
}

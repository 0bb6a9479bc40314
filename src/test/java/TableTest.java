import java.math.BigInteger;

/** Promises 5 (table), 6 (all), 7 (weight), 8 (upTo), 9 (draw) and 10 (isNear). */
public final class TableTest {
    private static final int LEAST = Integer.MIN_VALUE;
    private static final int MOST = Integer.MAX_VALUE;
    private static final Check check = new Check();

    public static void main(String[] args) {
        weighsByHand();
        refusesOtherTables();
        takesTheEdges();
        refusesWhatIsOutOfTheRange();
        for (int b = 2; b <= 10; b++) {
            for (int a = 1; a < b; a++) {
                for (int width = 0; width <= 14; width++) {
                    agreesWithTheTerms(a, b, 3 * a - 20, width);
                }
            }
        }
        check.end();
    }

    // a is 2, b 3, the range 0 .. 2: D is 5 * 9.
    private static void weighsByHand() {
        PrivateCounts x = new PrivateCounts();
        check.due("table(2, 3, 0, 2)", x.table(2, 3, 0, 2), 45);
        check.due("all()", x.all(), 45);
        long[][] weights = {{27, 6, 12}, {18, 9, 18}, {12, 6, 27}};
        for (int row = 0; row <= 2; row++) {
            long sum = 0;
            for (int z = 0; z <= 2; z++) {
                check.due("weight(" + row + ", " + z + ")", x.weight(row, z), weights[row][z]);
                sum += weights[row][z];
                check.due("upTo(" + row + ", " + z + ")", x.upTo(row, z), sum);
            }
            check.due("upTo(" + row + ", 3)", x.upTo(row, 3), 45);
        }
        check.due("draw(0, 26)", x.draw(0, 26), 0);
        check.due("draw(0, 27)", x.draw(0, 27), 1);
        check.due("draw(0, 32)", x.draw(0, 32), 1);
        check.due("draw(0, 33)", x.draw(0, 33), 2);
        check.due("draw(0, 44)", x.draw(0, 44), 2);
        check.due("isNear(0, 1)", x.isNear(0, 1), true);
        check.due("isNear(1, 0)", x.isNear(1, 0), true);
        check.due("isNear(0, 2)", x.isNear(0, 2), false);
        check.due("isNear(2, 0)", x.isNear(2, 0), false);
        check.due("isNear(2, 2)", x.isNear(2, 2), true);
    }

    private static void refusesOtherTables() {
        int[][] wrong = {
            {0, 2, 0, 1}, {-1, 2, 0, 1}, {2, 2, 0, 1}, {3, 2, 0, 1}, {1, 11, 0, 1}, {10, 11, 0, 1},
            {10, 10, 0, 1}, {1, 1, 0, 1}, {LEAST, 2, 0, 1}, {1, MOST, 0, 1}, {MOST, LEAST, 0, 1},
            {1, 2, 1, 0}, {1, 2, 0, 15}, {1, 2, -1001, -1000}, {1, 2, 1000, 1001}, {1, 2, 1001, 1001},
            {1, 2, -1001, -1001}, {1, 2, LEAST, MOST}, {1, 2, MOST, LEAST}, {1, 2, LEAST, LEAST},
            {1, 2, MOST, MOST}, {1, 2, LEAST, LEAST + 3}, {1, 2, -1000, 1000}, {1, 2, MOST - 2, MOST},
        };
        PrivateCounts x = new PrivateCounts();
        x.table(3, 7, -5, 4);
        for (int[] t : wrong) {
            check.throwsIllegalArgument("table(" + t[0] + ", " + t[1] + ", " + t[2] + ", " + t[3] + ")",
                () -> x.table(t[0], t[1], t[2], t[3]));
            check.due("low is kept", x.told(4), -5);
            check.due("high is kept", x.told(5), 4);
            check.due("a is kept", x.told(6), 3);
            check.due("b is kept", x.told(7), 7);
            check.due("all() is kept", x.all(), 403536070L);
        }
    }

    private static void takesTheEdges() {
        PrivateCounts x = new PrivateCounts();
        x.add(3);
        x.budget(5, 3);
        check.due("table(1, 10, 0, 14)", x.table(1, 10, 0, 14), 1100000000000000L);
        check.due("table(9, 10, 986, 1000)", x.table(9, 10, 986, 1000), 1900000000000000L);
        check.due("table(9, 10, -1000, -986)", x.table(9, 10, -1000, -986), 1900000000000000L);
        check.due("draw the last", x.draw(-993, 1899999999999999L), -986);
        check.throwsIllegalArgument("draw behind it", () -> x.draw(-993, 1900000000000000L));
        check.due("table(1, 2, -1000, -1000)", x.table(1, 2, -1000, -1000), 3);
        check.due("table(1, 2, 1000, 1000)", x.table(1, 2, 1000, 1000), 3);
        check.due("weight(1000, 1000)", x.weight(1000, 1000), 3);
        check.due("upTo(1000, 1000)", x.upTo(1000, 1000), 3);
        check.due("upTo(1000, 1001)", x.upTo(1000, 1001), 3);
        check.due("upTo(1000, 999)", x.upTo(1000, 999), 0);
        check.due("isNear(1000, 1000)", x.isNear(1000, 1000), true);
        check.due("rows are kept", x.count(3, 3), 1);
        check.due("the budget is kept", x.limb(0, 0, 0), 5);
    }

    private static void refusesWhatIsOutOfTheRange() {
        PrivateCounts x = new PrivateCounts();
        x.table(1, 3, -2, 2);
        for (int out : new int[] {-3, 3, LEAST, MOST, -1000, 1000}) {
            check.due("weight of " + out, x.weight(out, 0), 0);
            check.due("weight to " + out, x.weight(0, out), 0);
            check.due("weight of both", x.weight(out, out), 0);
            check.due("upTo of " + out, x.upTo(out, 0), 0);
            check.due("upTo of both", x.upTo(out, out), 0);
            check.due("upTo to " + out, x.upTo(0, out), out < 0 ? 0 : x.all());
            check.due("upTo of " + out + " to the most", x.upTo(out, MOST), 0);
            check.throwsIllegalArgument("draw(" + out + ", 0)", () -> x.draw(out, 0));
            check.throwsIllegalArgument("isNear(0, " + out + ")", () -> x.isNear(0, out));
            check.throwsIllegalArgument("isNear(" + out + ", 0)", () -> x.isNear(out, 0));
            check.throwsIllegalArgument("isNear of both", () -> x.isNear(out, out));
        }
        for (long coin : new long[] {-1, x.all(), x.all() + 1, Long.MIN_VALUE, Long.MAX_VALUE, 1L << 32}) {
            check.throwsIllegalArgument("draw(0, " + coin + ")", () -> x.draw(0, coin));
        }
    }

    private static void agreesWithTheTerms(int a, int b, int low, int width) {
        int high = low + width;
        BigInteger total = BigInteger.valueOf(a + b).multiply(BigInteger.valueOf(b).pow(width));
        for (int row = low; row <= high; row++) {
            // A new object each time: one is not used for more than 512 calls.
            PrivateCounts x = new PrivateCounts();
            check.due("table", x.table(a, b, low, high), total.longValueExact());
            check.due("all", x.all(), total.longValueExact());
            BigInteger sum = BigInteger.ZERO;
            String of = "a " + a + ", b " + b + ", " + low + " .. " + high + ", x " + row;
            for (int z = low; z <= high; z++) {
                BigInteger weight = weight(a, b, low, high, row, z);
                check.due(of + ": weight to " + z, x.weight(row, z), weight.longValueExact());
                check.due(of + ": first coin of " + z, x.draw(row, sum.longValueExact()), z);
                sum = sum.add(weight);
                check.due(of + ": last coin of " + z, x.draw(row, sum.longValueExact() - 1), z);
                check.due(of + ": upTo " + z, x.upTo(row, z), sum.longValueExact());
                check.due(of + ": isNear " + z, x.isNear(row, z), isNear(a, b, low, high, row, z));
            }
            check.due(of + ": all together", sum.equals(total), true);
        }
    }

    private static BigInteger weight(int a, int b, int low, int high, int x, int z) {
        int d = Math.abs(x - z);
        int w = high - low;
        if (low == high) {
            return BigInteger.valueOf(a + b);
        }
        BigInteger far = BigInteger.valueOf(a).pow(d);
        if (z == low || z == high) {
            return BigInteger.valueOf(b).pow(w + 1 - d).multiply(far);
        }
        return BigInteger.valueOf(b - a).multiply(BigInteger.valueOf(b).pow(w - d)).multiply(far);
    }

    private static boolean isNear(int a, int b, int low, int high, int x, int y) {
        boolean near = true;
        for (int z = low; z <= high; z++) {
            BigInteger one = weight(a, b, low, high, x, z).multiply(BigInteger.valueOf(a));
            BigInteger other = weight(a, b, low, high, y, z).multiply(BigInteger.valueOf(b));
            near &= one.compareTo(other) <= 0;
        }
        return near;
    }
}

import java.math.BigDecimal;
import java.math.BigInteger;
import java.math.MathContext;
import java.util.ArrayList;

/** The document once more, by the Java library: what the program is held against in long runs. */
final class Model {
    static final long ILLEGAL = Long.MIN_VALUE;
    static final long OUT_OF_BOUNDS = Long.MIN_VALUE + 1;
    private static final MathContext DIGITS = new MathContext(60);

    private final ArrayList<Integer> rows = new ArrayList<>();
    private int a = 1;
    private int b = 2;
    private int low = 0;
    private int high = 10;
    private Ratio budget = Ratio.ZERO;
    private Ratio spent = Ratio.ZERO;
    private final int[] asked = new int[3];

    long add(int v) {
        if (rows.size() == 60) {
            return -1;
        }
        rows.add(v);
        return rows.size() - 1;
    }

    long remove(int row) {
        return row < 0 || row >= rows.size() ? OUT_OF_BOUNDS : rows.remove(row);
    }

    long count(int lower, int upper) {
        return rows.stream().filter(v -> lower <= v && v <= upper).count();
    }

    long table(int newA, int newB, int newLow, int newHigh) {
        if (newA < 1 || newB <= newA || newB > 10 || newLow < -1000 || newHigh > 1000 || newLow > newHigh
            || newHigh - newLow > 14) {
            return ILLEGAL;
        }
        a = newA;
        b = newB;
        low = newLow;
        high = newHigh;
        return all();
    }

    long all() {
        return BigInteger.valueOf(b).pow(high - low).longValueExact() * (a + b);
    }

    long weight(int x, int z) {
        if (isOut(x) || isOut(z)) {
            return 0;
        }
        if (low == high) {
            return all();
        }
        int d = Math.abs(x - z);
        long far = BigInteger.valueOf(a).pow(d).longValueExact();
        int near = high - low - d;
        return z == low || z == high ? BigInteger.valueOf(b).pow(near + 1).longValueExact() * far
            : BigInteger.valueOf(b).pow(near).longValueExact() * far * (b - a);
    }

    long upTo(int x, int z) {
        long sum = 0;
        for (int outcome = low; outcome <= Math.min(z, high); outcome++) {
            sum += weight(x, outcome);
        }
        return sum;
    }

    long draw(int x, long coin) {
        if (isOut(x) || coin < 0 || coin >= all()) {
            return ILLEGAL;
        }
        int z = low;
        while (upTo(x, z) <= coin) {
            z++;
        }
        return z;
    }

    long isNear(int x, int y) {
        if (isOut(x) || isOut(y)) {
            return ILLEGAL;
        }
        for (int z = low; z <= high; z++) {
            if (weight(x, z) * a > weight(y, z) * b) {
                return 0;
            }
        }
        return 1;
    }

    long budget(int num, int den) {
        if (num < 0 || den < 1 || den > 1000) {
            return ILLEGAL;
        }
        budget = Ratio.of(num, den);
        spent = Ratio.ZERO;
        asked[0] = 0;
        asked[1] = 0;
        asked[2] = 0;
        return 0;
    }

    long raise(int num, int den) {
        if (num < 0 || den < 1 || den > 1000) {
            return ILLEGAL;
        }
        budget = budget.plus(Ratio.of(num, den));
        return 0;
    }

    long isEnough(int p, int q) {
        if (p < 0 || p > 3000 || q < 1 || q > 1000) {
            return ILLEGAL;
        }
        BigDecimal x = new BigDecimal(p).divide(new BigDecimal(q), DIGITS);
        BigDecimal limit = new BigDecimal(b).divide(new BigDecimal(a), DIGITS);
        BigDecimal sum = BigDecimal.ZERO;
        BigDecimal term = BigDecimal.ONE;
        for (int k = 1; k < 80; k++) {
            sum = sum.add(term);
            term = term.multiply(x, DIGITS).divide(new BigDecimal(k), DIGITS);
        }
        return sum.compareTo(limit) >= 0 ? 1 : 0;
    }

    long least(int q) {
        if (q < 1 || q > 1000) {
            return ILLEGAL;
        }
        // A double is near enough to begin with.
        int p = Math.max(0, (int) (q * Math.log((double) b / a)) - 2);
        while (isEnough(p, q) == 0) {
            p++;
        }
        return p;
    }

    long ask(int lower, int upper, int p, int q, long coin) {
        long enough = isEnough(p, q);
        if (enough == ILLEGAL || coin < 0 || coin >= all()) {
            return ILLEGAL;
        }
        Ratio sum = spent.plus(Ratio.of(p, q));
        if (enough == 0 || sum.isMoreThan(budget)) {
            asked[enough == 0 ? 1 : 2]++;
            return Integer.MIN_VALUE;
        }
        spent = sum;
        asked[0]++;
        return draw(Math.max(low, Math.min(high, (int) count(lower, upper))), coin);
    }

    long limb(int which, int part, int k) {
        if (which < 0 || which > 2 || part < 0 || part > 1) {
            return OUT_OF_BOUNDS;
        }
        Ratio one = which == 0 ? budget : which == 1 ? spent : budget.minus(spent);
        return one.limb(part, k);
    }

    long told(int what) {
        int[] all = {asked[0], asked[1], asked[2], rows.size(), low, high, a, b};
        return what < 0 || what > 7 ? OUT_OF_BOUNDS : all[what];
    }

    private boolean isOut(int x) {
        return x < low || x > high;
    }
}

/**
 * Counts that tell little of any one: rows are counted, what is told is drawn by given coins from a
 * table that is exact, each question costs a fraction of a budget, and whether a cost is enough for
 * the table is decided exactly.
 */
public final class PrivateCounts {
    public static final int NONE = -1;
    public static final int REFUSED = -2147483648;

    private static final int MOST_ROWS = 60;
    private static final int MOST_COST = 3000;
    private static final int MOST_DENOMINATOR = 1000;

    private final int[] rows = new int[MOST_ROWS];
    private int rowCount = 0;
    private final Table weights = new Table();
    private final Series series = new Series();
    private final Fraction granted = new Fraction();
    private final Fraction spent = new Fraction();
    // Held beside the two that it follows from: so every change is by a fraction of small numbers,
    // and no divisor of two long numbers is ever looked for.
    private final Fraction left = new Fraction();
    private int answered = 0;
    private int refusedForCost = 0;
    private int refusedForBudget = 0;

    public PrivateCounts() {
    }

    public int add(int v) {
        if (rowCount < 0 || rowCount >= rows.length) {
            return NONE;
        }
        rows[rowCount] = v;
        rowCount++;
        return rowCount - 1;
    }

    public int remove(int row) throws IndexOutOfBoundsException {
        if (row < 0 || row >= rowCount || row >= rows.length) {
            throw new IndexOutOfBoundsException("there is no such row");
        }
        int gone = rows[row];
        for (int i = row + 1; i < rowCount && i < rows.length; i++) {
            rows[i - 1] = rows[i];
        }
        rowCount--;
        return gone;
    }

    public int count(int lower, int upper) {
        int found = 0;
        for (int i = 0; i < rowCount && i < rows.length; i++) {
            if (rows[i] >= lower && rows[i] <= upper) {
                found++;
            }
        }
        return found;
    }

    public long table(int a, int b, int low, int high) throws IllegalArgumentException {
        if (!Table.isAllowed(a, b, low, high)) {
            throw new IllegalArgumentException("a, b or the range are not as told");
        }
        weights.become(a, b, low, high);
        return weights.total;
    }

    public long all() {
        return weights.total;
    }

    public long weight(int x, int z) {
        return weights.weightOf(x, z);
    }

    public long upTo(int x, int z) {
        return weights.sumTo(x, z);
    }

    public int draw(int x, long coin) throws IllegalArgumentException {
        if (!weights.holds(x) || !weights.hasCoin(coin)) {
            throw new IllegalArgumentException("x is out of the range, or the coin not below all");
        }
        return weights.outcomeOf(x, coin);
    }

    public boolean isNear(int x, int y) throws IllegalArgumentException {
        if (!weights.holds(x) || !weights.holds(y)) {
            throw new IllegalArgumentException("x or y is out of the range");
        }
        return weights.isWithinRatio(x, y);
    }

    public void budget(int num, int den) throws IllegalArgumentException {
        if (!isGrant(num, den)) {
            throw new IllegalArgumentException("num is below 0, or den not 1 to 1000");
        }
        granted.become(num, den);
        spent.become(0, 1);
        left.become(num, den);
        answered = 0;
        refusedForCost = 0;
        refusedForBudget = 0;
    }

    public void raise(int num, int den) throws IllegalArgumentException {
        if (!isGrant(num, den)) {
            throw new IllegalArgumentException("num is below 0, or den not 1 to 1000");
        }
        granted.increase(num, den);
        left.increase(num, den);
    }

    public boolean isEnough(int p, int q) throws IllegalArgumentException {
        if (!isCost(p, q)) {
            throw new IllegalArgumentException("p is not 0 to 3000, or q not 1 to 1000");
        }
        return series.reaches(weights, p, q);
    }

    public int least(int q) throws IllegalArgumentException {
        if (!isDenominator(q)) {
            throw new IllegalArgumentException("q is not 1 to 1000");
        }
        // e to 0 is 1, less than any b / a; e to 3 is more than 20, and b / a is at most 10.
        int tooLittle = 0;
        int enough = 3 * q;
        for (int step = 0; step < 32 && enough - tooLittle > 1; step++) {
            int middle = (tooLittle + enough) / 2;
            if (series.reaches(weights, middle, q)) {
                enough = middle;
            } else {
                tooLittle = middle;
            }
        }
        return enough;
    }

    public int ask(int lower, int upper, int p, int q, long coin) throws IllegalArgumentException {
        if (!isCost(p, q) || !weights.hasCoin(coin)) {
            throw new IllegalArgumentException("p, q or the coin are not as told");
        }
        if (!series.reaches(weights, p, q)) {
            refusedForCost++;
            return REFUSED;
        }
        if (left.isLessThan(p, q)) {
            refusedForBudget++;
            return REFUSED;
        }
        spent.increase(p, q);
        left.decrease(p, q);
        answered++;
        return weights.outcomeOf(weights.nearestTo(count(lower, upper)), coin);
    }

    public int limb(int which, int part, int k) throws IndexOutOfBoundsException {
        if (which < 0 || which > 2 || part < 0 || part > 1) {
            throw new IndexOutOfBoundsException("another which or part");
        }
        Fraction fraction = which == 0 ? granted : which == 1 ? spent : left;
        Natural number = part == 0 ? fraction.numerator : fraction.denominator;
        if (k == -1) {
            return number.size;
        }
        return k >= 0 && k < number.size ? number.limbAt(k) : NONE;
    }

    public int told(int what) throws IndexOutOfBoundsException {
        switch (what) {
            case 0: return answered;
            case 1: return refusedForCost;
            case 2: return refusedForBudget;
            case 3: return rowCount;
            case 4: return weights.low;
            case 5: return weights.high;
            case 6: return weights.a;
            case 7: return weights.b;
            default: throw new IndexOutOfBoundsException("another what");
        }
    }

    private static boolean isDenominator(int den) {
        return den >= 1 && den <= MOST_DENOMINATOR;
    }

    private static boolean isGrant(int num, int den) {
        return num >= 0 && isDenominator(den);
    }

    private static boolean isCost(int p, int q) {
        return p >= 0 && p <= MOST_COST && isDenominator(q);
    }

    /** How heavy every outcome weighs for every true number; the greatest total is 19 * 10^14. */
    private static final class Table {
        private static final int MOST_BASE = 10;
        private static final int FARTHEST = 1000;
        private static final int WIDEST = 14;

        int a;
        int b;
        int low;
        int high;
        long total;

        Table() {
            become(1, 2, 0, 10);
        }

        static boolean isAllowed(int a, int b, int low, int high) {
            // The two ends are looked at first, so that high - low cannot wrap around.
            return a >= 1 && a < b && b <= MOST_BASE
                && low >= -FARTHEST && high <= FARTHEST && low <= high && high - low <= WIDEST;
        }

        void become(int newA, int newB, int newLow, int newHigh) {
            a = newA;
            b = newB;
            low = newLow;
            high = newHigh;
            total = (newA + newB) * power(newB, newHigh - newLow);
        }

        boolean holds(int x) {
            return x >= low && x <= high;
        }

        boolean hasCoin(long coin) {
            return coin >= 0 && coin < total;
        }

        int nearestTo(int x) {
            return x < low ? low : x > high ? high : x;
        }

        long weightOf(int x, int z) {
            if (!holds(x) || !holds(z)) {
                return 0;
            }
            if (low == high) {
                return total;
            }
            int width = high - low;
            int apart = x < z ? z - x : x - z;
            if (z == low || z == high) {
                return power(b, width + 1 - apart) * power(a, apart);
            }
            return (b - a) * power(b, width - apart) * power(a, apart);
        }

        long sumTo(int x, int z) {
            long sum = 0;
            for (int outcome = low; outcome <= high && outcome <= z; outcome++) {
                sum += weightOf(x, outcome);
            }
            return sum;
        }

        int outcomeOf(int x, long coin) {
            long sum = 0;
            for (int outcome = low; outcome < high; outcome++) {
                sum += weightOf(x, outcome);
                if (sum > coin) {
                    return outcome;
                }
            }
            return high;
        }

        boolean isWithinRatio(int x, int y) {
            for (int outcome = low; outcome <= high; outcome++) {
                if (a * weightOf(x, outcome) > b * weightOf(y, outcome)) {
                    return false;
                }
            }
            return true;
        }

        private static long power(int base, int exponent) {
            long result = 1;
            for (int i = 0; i < exponent; i++) {
                result *= base;
            }
            return result;
        }
    }

    /** Decides by whole numbers alone whether e to p / q is at least b / a. */
    private static final class Series {
        // Of all p, q, a and b none needs more than 15 terms.
        private static final int MOST_TERMS = 60;

        private final Natural missing = new Natural();
        private final Natural term = new Natural();

        boolean reaches(Table table, int p, int q) {
            // Behind term k both numbers stand for fractions by q^k k!: what the terms so far leave
            // missing of b - a, and a (p / q)^k / k!.
            missing.become(table.b - table.a);
            term.become(table.a);
            for (int k = 1; k <= MOST_TERMS; k++) {
                missing.times(q * k);
                term.times(p);
                if (!Natural.isLess(term, 1, missing, 1)) {
                    return true;
                }
                missing.plusTimes(term, -1);
                // From here on each term is at most half of the one before, so that all that are
                // to come are together no more than this one, and for p above 0 less.
                boolean halves = 2 * p <= (k + 1) * q;
                if (halves && !Natural.isLess(missing, 1, term, 1)) {
                    return false;
                }
            }
            return false;
        }
    }

    /** A numerator and a denominator without a common divisor; every change is by small numbers. */
    private static final class Fraction {
        final Natural numerator = new Natural();
        final Natural denominator = new Natural();

        Fraction() {
            denominator.become(1);
        }

        void become(int num, int den) {
            int common = commonDivisor(num, den);
            numerator.become(num);
            numerator.divideBy(common);
            denominator.become(den);
            denominator.divideBy(common);
        }

        void increase(int num, int den) {
            change(num, den, 1);
        }

        void decrease(int num, int den) {
            change(num, den, -1);
        }

        boolean isLessThan(int num, int den) {
            return Natural.isLess(numerator, den, denominator, num);
        }

        private void change(int num, int den, int sign) {
            int common = commonDivisor(num, den);
            int top = quotient(num, common);
            int bottom = quotient(den, common);
            int shared = commonDivisor(denominator.restBy(bottom), bottom);
            denominator.divideBy(shared);
            numerator.times(quotient(bottom, shared));
            numerator.plusTimes(denominator, sign * top);
            // Of two fractions without common divisors, the sum can have only such a one as their
            // denominators share.
            int again = commonDivisor(numerator.restBy(shared), shared);
            numerator.divideBy(again);
            denominator.times(quotient(bottom, again));
        }

        private static int quotient(int number, int divisor) {
            return divisor < 1 ? number : number / divisor;
        }

        private static int commonDivisor(int one, int other) {
            int x = one;
            int y = other;
            for (int step = 0; step < 64 && y > 0; step++) {
                int rest = x % y;
                x = y;
                y = rest;
            }
            return x;
        }
    }

    /** A whole number from 0 on, in figures to the base 2^31, the lowest first. */
    private static final class Natural {
        // Every denominator divides the least common multiple of 1 .. 1000, which has 1438 bits;
        // 512 calls keep a budget below 2^40, and a sum is up to 1000 times as great before it is
        // shortened: that is 49 limbs.
        private static final int MOST_LIMBS = 64;
        private static final int LIMB_BITS = 31;
        private static final long LIMB_MASK = 2147483647L;

        private final int[] limbs = new int[MOST_LIMBS];
        int size = 0;

        void become(int value) {
            size = 0;
            append(value);
        }

        int limbAt(int k) {
            return k >= 0 && k < size && k < limbs.length ? limbs[k] : 0;
        }

        void times(int factor) {
            long carry = 0;
            for (int i = 0; i < size && i < limbs.length; i++) {
                carry += (long) limbs[i] * factor;
                limbs[i] = (int) (carry & LIMB_MASK);
                carry >>= LIMB_BITS;
            }
            append(carry);
            trim();
        }

        /** The factor may be below 0 where what comes out is not. */
        void plusTimes(Natural other, int factor) {
            int longest = size > other.size ? size : other.size;
            long carry = 0;
            for (int i = 0; i < longest && i < limbs.length; i++) {
                carry += limbAt(i) + (long) other.limbAt(i) * factor;
                limbs[i] = (int) (carry & LIMB_MASK);
                carry >>= LIMB_BITS;
            }
            size = longest;
            append(carry);
            trim();
        }

        /** Divides by a divisor of this number. */
        void divideBy(int divisor) {
            if (divisor < 1) {
                return;
            }
            long rest = 0;
            for (int i = size - 1; i >= 0 && i < limbs.length; i--) {
                rest = (rest << LIMB_BITS) + limbs[i];
                limbs[i] = (int) (rest / divisor);
                rest %= divisor;
            }
            trim();
        }

        int restBy(int divisor) {
            if (divisor < 1) {
                return 0;
            }
            long rest = 0;
            for (int i = size - 1; i >= 0; i--) {
                rest = ((rest << LIMB_BITS) + limbAt(i)) % divisor;
            }
            return (int) rest;
        }

        /** Whether one * by is less than other * otherBy: the last borrow of the difference tells. */
        static boolean isLess(Natural one, int by, Natural other, int otherBy) {
            int longest = one.size > other.size ? one.size : other.size;
            long carry = 0;
            for (int i = 0; i < longest; i++) {
                carry += (long) one.limbAt(i) * by - (long) other.limbAt(i) * otherBy;
                carry >>= LIMB_BITS;
            }
            return carry < 0;
        }

        private void append(long limb) {
            if (limb > 0 && size >= 0 && size < limbs.length) {
                limbs[size] = (int) limb;
                size++;
            }
        }

        private void trim() {
            while (size > 0 && limbAt(size - 1) == 0) {
                size--;
            }
        }
    }
}

import java.math.BigInteger;

/** The boundaries of fractions: the terms, promises 11 (budget), 12 (raise) and 16 (limb). */
final class BudgetEdges {
    private static final int LEAST = Integer.MIN_VALUE;
    private static final int MOST = Integer.MAX_VALUE;
    private static final int[] PRIMES = {997, 991, 983};
    private static final BigInteger PRODUCT = BigInteger.valueOf(997L * 991 * 983);

    private final Check check;

    BudgetEdges(Check check) {
        this.check = check;
    }

    private static PrivateCounts budgetOf(int num, int den) {
        PrivateCounts x = new PrivateCounts();
        x.budget(num, den);
        return x;
    }

    /** THE BUDGET becomes the numerator by 997 * 991 * 983, in some six calls. */
    static void grant(PrivateCounts x, BigInteger numerator) {
        BigInteger left = numerator;
        x.budget(0, 1);
        for (int prime : PRIMES) {
            BigInteger den = BigInteger.valueOf(prime);
            BigInteger others = PRODUCT.divide(den);
            BigInteger num = numerator.multiply(others.modInverse(den)).mod(den);
            x.raise(num.intValueExact(), prime);
            left = left.subtract(num.multiply(others));
        }
        BigInteger whole = left.divide(PRODUCT);
        for (; whole.bitLength() > 31; whole = whole.subtract(BigInteger.valueOf(MOST))) {
            x.raise(MOST, 1);
        }
        x.raise(whole.intValueExact(), 1);
    }

    private void holdsLimbs(PrivateCounts x, int which, int part, int... limbs) {
        check.due("how many of " + which + ", " + part, x.limb(which, part, -1), limbs.length);
        for (int k = 0; k < limbs.length; k++) {
            check.due("limb(" + which + ", " + part + ", " + k + ")", x.limb(which, part, k), limbs[k]);
        }
        check.due("none behind of " + which + ", " + part, x.limb(which, part, limbs.length), PrivateCounts.NONE);
    }

    void numeratorsBeginAtZero() {
        PrivateCounts x = budgetOf(7, 10);
        x.ask(0, 9, 7, 10, 0);
        holdsLimbs(x, 0, 0, 7);
        holdsLimbs(x, 1, 0, 7);
        holdsLimbs(x, 2, 0);
        x.budget(0, 10);
        for (int which = 0; which <= 2; which++) {
            holdsLimbs(x, which, 0);
        }
    }

    void denominatorsBeginAtOne() {
        PrivateCounts x = new PrivateCounts();
        for (int which = 0; which <= 2; which++) {
            holdsLimbs(x, which, 1, 1);
        }
        x.budget(5, 1);
        x.ask(0, 9, 3000, 1000, 0);
        for (int which = 0; which <= 2; which++) {
            holdsLimbs(x, which, 1, 1);
        }
        x.raise(1, 1000);
        holdsLimbs(x, 0, 1, 1000);
        holdsLimbs(x, 1, 1, 1);
        holdsLimbs(x, 2, 1, 1000);
        x.raise(999, 1000);
        holdsLimbs(x, 0, 1, 1);
        holdsLimbs(x, 2, 1, 1);
    }

    void haveNoCommonDivisor() {
        int[][] grants = {{1000, 1000}, {6, 4}, {2, 1000}, {MOST, 1000}, {2147483000, 1000}, {999, 27}};
        for (int[] grant : grants) {
            Ratio.of(grant[0], grant[1]).isHeld(check, budgetOf(grant[0], grant[1]), 0, "budget");
        }
        PrivateCounts x = budgetOf(1, 6);
        x.raise(1, 3);
        Ratio.of(1, 2).isHeld(check, x, 0, "1/6 and 1/3");
        x.raise(3, 6);
        Ratio.of(1, 1).isHeld(check, x, 0, "and 3/6");
        x.raise(5, 12);
        x.ask(0, 9, 9, 12, 0);
        Ratio.of(3, 4).isHeld(check, x, 1, "9/12 are spent");
        Ratio.of(2, 3).isHeld(check, x, 2, "of 17/12 are left");
        x.raise(1, 12);
        Ratio.of(3, 2).isHeld(check, x, 0, "18/12");
        Ratio.of(3, 4).isHeld(check, x, 2, "9/12 are left");
    }

    void zeroIsZeroByOne() {
        for (int den : new int[] {1, 2, 999, 1000}) {
            PrivateCounts x = budgetOf(0, den);
            x.raise(0, den);
            for (int which = 0; which <= 2; which++) {
                holdsLimbs(x, which, 0);
                holdsLimbs(x, which, 1, 1);
            }
        }
        PrivateCounts x = budgetOf(699, 997);
        x.ask(0, 9, 699, 997, 0);
        holdsLimbs(x, 2, 0);
        holdsLimbs(x, 2, 1, 1);
        x.budget(3, 7);
        holdsLimbs(x, 1, 0);
        holdsLimbs(x, 1, 1, 1);
    }

    void areOfAnySize() {
        PrivateCounts x = new PrivateCounts();
        Ratio granted = Ratio.ZERO;
        for (int den = 1000; den > 800; den--) {
            x.raise(MOST, den);
            granted = granted.plus(Ratio.of(MOST, den));
        }
        check.due("more than ten longs", granted.denominator.bitLength() > 640, true);
        granted.isHeld(check, x, 0, "two hundred raises");
        granted.isHeld(check, x, 2, "two hundred raises");
    }

    void limbsAreFiguresOfThirtyOneBits() {
        PrivateCounts x = budgetOf(MOST, 1);
        holdsLimbs(x, 0, 0, MOST);
        x.raise(1, 1);
        holdsLimbs(x, 0, 0, 0, 1);
        holdsLimbs(x, 2, 0, 0, 1);
        x.raise(MOST, 1);
        holdsLimbs(x, 0, 0, MOST, 1);
        x.raise(1, 1);
        holdsLimbs(x, 0, 0, 0, 2);
        BigInteger square = BigInteger.ONE.shiftLeft(62);
        grant(x, square.subtract(BigInteger.ONE));
        holdsLimbs(x, 0, 0, MOST, MOST);
        grant(x, square);
        holdsLimbs(x, 0, 0, 0, 0, 1);
    }

    void theLowestLimbComesFirst() {
        PrivateCounts x = budgetOf(MOST, 1);
        x.raise(MOST, 1);
        x.raise(9, 1);
        holdsLimbs(x, 0, 0, 7, 2);
        grant(x, BigInteger.ONE.shiftLeft(62).add(BigInteger.valueOf(5)));
        holdsLimbs(x, 0, 0, 5, 0, 1);
        // 997 * 991 * 983 is 971230541, times 937 it has two limbs: 910043016917 is 423 * 2^31 + ..
        x.raise(1, 937);
        holdsLimbs(x, 0, 1, (int) (910043016917L % (1L << 31)), (int) (910043016917L >> 31));
    }

    // What is left goes from 2^31 to 2^31 - 1; a denominator of two limbs goes back to 1; and a sum of
    // two limbs by 2 is shortened to one.
    void limbsHaveNoNeedlessZeros() {
        PrivateCounts x = budgetOf(MOST, 1);
        x.raise(1, 1);
        x.ask(0, 9, 1, 1, 0);
        holdsLimbs(x, 0, 0, 0, 1);
        holdsLimbs(x, 2, 0, MOST);
        x.budget(0, 1);
        for (int den : new int[] {999, 998, 997, 991}) {
            x.raise(1, den);
        }
        check.due("two limbs", x.limb(0, 1, -1), 2);
        for (int den : new int[] {999, 998, 997, 991}) {
            x.raise(den - 1, den);
        }
        holdsLimbs(x, 0, 0, 4);
        holdsLimbs(x, 0, 1, 1);
        holdsLimbs(x, 2, 0, 4);
        holdsLimbs(x, 2, 1, 1);
        x.budget(MOST, 2);
        x.raise(MOST, 2);
        holdsLimbs(x, 0, 0, MOST);
        holdsLimbs(x, 2, 0, MOST);
    }

    void zeroHasNoLimb() {
        PrivateCounts x = new PrivateCounts();
        for (int which = 0; which <= 2; which++) {
            check.due("how many", x.limb(which, 0, -1), 0);
            check.due("the first", x.limb(which, 0, 0), PrivateCounts.NONE);
        }
        x.budget(3000, 7);
        x.ask(0, 9, 3000, 7, 0);
        check.due("how many of nothing left", x.limb(2, 0, -1), 0);
        check.due("the first of nothing left", x.limb(2, 0, 0), PrivateCounts.NONE);
    }

    void areZeroAtFirst() {
        PrivateCounts x = new PrivateCounts();
        for (int which = 0; which <= 2; which++) {
            holdsLimbs(x, which, 0);
            holdsLimbs(x, which, 1, 1);
        }
        check.due("a question at once", x.ask(0, 9, 1, 1, 0), PrivateCounts.REFUSED);
        check.due("is refused for the budget", x.told(2), 1);
        x.raise(1, 1);
        Ratio.of(1, 1).isHeld(check, x, 0, "raised from 0");
    }

    // Lesser, greater, the least and the greatest there can be; what it was before does not count.
    void theBudgetBecomesNumByDen() {
        PrivateCounts x = new PrivateCounts();
        int[][] grants = {{5, 3}, {0, 1000}, {MOST, 1}, {1, 1000}, {MOST, 1000}, {0, 1}, {1, 1}};
        for (int[] grant : grants) {
            x.budget(grant[0], grant[1]);
            Ratio.of(grant[0], grant[1]).isHeld(check, x, 0, "budget");
            Ratio.of(grant[0], grant[1]).isHeld(check, x, 2, "budget");
        }
    }

    void spentBecomesZero() {
        PrivateCounts x = budgetOf(5, 1);
        x.ask(0, 9, 7, 3, 0);
        Ratio.of(7, 3).isHeld(check, x, 1, "spent");
        x.budget(5, 1);
        Ratio.ZERO.isHeld(check, x, 1, "spent of a new budget");
        Ratio.of(5, 1).isHeld(check, x, 2, "left of a new budget");
        check.due("all of it can be spent", x.ask(0, 9, 5, 1, 0), 0);
        x.budget(0, 1);
        Ratio.ZERO.isHeld(check, x, 1, "spent of a budget of 0");
        check.due("nothing of it can be spent", x.ask(0, 9, 1, 1, 0), PrivateCounts.REFUSED);
    }

    void noQuestionsWereAsked() {
        PrivateCounts x = budgetOf(1, 1);
        x.ask(0, 9, 1, 1, 0);
        x.ask(0, 9, 1, 2, 0);
        x.ask(0, 9, 1, 1, 0);
        for (int what = 0; what <= 2; what++) {
            check.due("told(" + what + ")", x.told(what), 1);
        }
        x.budget(1, 1);
        for (int what = 0; what <= 2; what++) {
            check.due("told(" + what + ") behind budget()", x.told(what), 0);
        }
    }

    void budgetRefusesANumBelowZero() {
        PrivateCounts x = new PrivateCounts();
        for (int num : new int[] {-1, -2, LEAST}) {
            check.throwsIllegalArgument("budget(" + num + ", 1)", () -> x.budget(num, 1));
            check.throwsIllegalArgument("budget(" + num + ", 1001)", () -> x.budget(num, 1001));
        }
        x.budget(0, 1);
        x.budget(MOST, 1);
        Ratio.of(MOST, 1).isHeld(check, x, 0, "the greatest num");
    }

    void budgetRefusesAnotherDen() {
        PrivateCounts x = new PrivateCounts();
        for (int den : new int[] {0, -1, 1001, LEAST, MOST}) {
            check.throwsIllegalArgument("budget(1, " + den + ")", () -> x.budget(1, den));
            check.throwsIllegalArgument("budget(0, " + den + ")", () -> x.budget(0, den));
        }
        x.budget(0, 1);
        x.budget(0, 1000);
        x.budget(MOST, 1000);
        Ratio.of(MOST, 1000).isHeld(check, x, 0, "the last of these");
    }

    void theBudgetBecomesMore() {
        PrivateCounts x = new PrivateCounts();
        x.raise(0, 1);
        x.raise(0, 1000);
        Ratio.ZERO.isHeld(check, x, 0, "raised by 0");
        x.raise(1, 1000);
        Ratio.of(1, 1000).isHeld(check, x, 0, "raised from 0");
        x.raise(MOST, 1);
        x.raise(MOST, 1);
        x.raise(MOST, 1000);
        Ratio due = Ratio.of(2L * MOST, 1).plus(Ratio.of(1, 1000)).plus(Ratio.of(MOST, 1000));
        due.isHeld(check, x, 0, "raised beyond an int");
        due.isHeld(check, x, 2, "raised beyond an int");
        PrivateCounts asked = budgetOf(1, 1);
        asked.ask(0, 9, 1, 1, 0);
        asked.ask(0, 9, 1, 1, 0);
        asked.ask(0, 9, 0, 1, 0);
        asked.raise(2, 3);
        Ratio.of(1, 1).isHeld(check, asked, 1, "spent stays");
        Ratio.of(2, 3).isHeld(check, asked, 2, "left");
        for (int what = 0; what <= 2; what++) {
            check.due("told(" + what + ") stays", asked.told(what), 1);
        }
        check.due("too much is asked", asked.ask(0, 9, 1, 1, 0), PrivateCounts.REFUSED);
        asked.raise(1, 3);
        check.due("now it is there", asked.ask(0, 9, 1, 1, 0), 0);
    }

    void raiseRefusesANumBelowZero() {
        PrivateCounts x = new PrivateCounts();
        for (int num : new int[] {-1, -2, LEAST}) {
            check.throwsIllegalArgument("raise(" + num + ", 1)", () -> x.raise(num, 1));
            check.throwsIllegalArgument("raise(" + num + ", 0)", () -> x.raise(num, 0));
        }
        x.raise(0, 1);
        x.raise(MOST, 1);
        Ratio.of(MOST, 1).isHeld(check, x, 0, "the greatest num");
    }

    void raiseRefusesAnotherDen() {
        PrivateCounts x = new PrivateCounts();
        for (int den : new int[] {0, -1, 1001, LEAST, MOST}) {
            check.throwsIllegalArgument("raise(1, " + den + ")", () -> x.raise(1, den));
            check.throwsIllegalArgument("raise(0, " + den + ")", () -> x.raise(0, den));
        }
        x.raise(0, 1);
        x.raise(0, 1000);
        x.raise(MOST, 1000);
        Ratio.of(MOST, 1000).isHeld(check, x, 0, "the sum of these");
    }

    // Budget 9/2, spent 3/4, left 15/4: all six numbers are others.
    void limbOfEachNumber() {
        PrivateCounts x = budgetOf(9, 2);
        x.ask(0, 9, 3, 4, 0);
        int[][] due = {{9, 2}, {3, 4}, {15, 4}};
        for (int which = 0; which <= 2; which++) {
            for (int part = 0; part <= 1; part++) {
                holdsLimbs(x, which, part, due[which][part]);
            }
        }
    }

    void limbTellsHowManyThereAre() {
        PrivateCounts x = new PrivateCounts();
        check.due("of 0", x.limb(0, 0, -1), 0);
        check.due("of 1", x.limb(0, 1, -1), 1);
        x.budget(MOST, 1);
        check.due("of 2^31 - 1", x.limb(0, 0, -1), 1);
        x.raise(1, 1);
        check.due("of 2^31", x.limb(0, 0, -1), 2);
        grant(x, BigInteger.ONE.shiftLeft(62).subtract(BigInteger.ONE));
        check.due("of 2^62 - 1", x.limb(2, 0, -1), 2);
        grant(x, BigInteger.ONE.shiftLeft(62));
        check.due("of 2^62", x.limb(2, 0, -1), 3);
    }

    void limbAnswersNoneWhenThereIsNone() {
        PrivateCounts x = budgetOf(MOST, 1);
        x.raise(1, 1);
        check.due("the last there is", x.limb(0, 0, 1), 1);
        for (int k : new int[] {2, 3, 63, 64, 65, 1000, MOST, -2, -3, LEAST}) {
            check.due("limb(0, 0, " + k + ")", x.limb(0, 0, k), PrivateCounts.NONE);
            check.due("limb(0, 1, " + k + ")", x.limb(0, 1, k), PrivateCounts.NONE);
            check.due("limb(1, 0, " + k + ")", x.limb(1, 0, k), PrivateCounts.NONE);
            check.due("limb(1, 1, " + k + ")", x.limb(1, 1, k), PrivateCounts.NONE);
        }
        check.due("limb(1, 0, 0) of 0", x.limb(1, 0, 0), PrivateCounts.NONE);
    }

    // A k that is none does not save another which or part.
    void limbRefusesAnotherWhich() {
        PrivateCounts x = budgetOf(5, 2);
        for (int k : new int[] {-1, 0, 1, -2, LEAST, MOST}) {
            for (int other : new int[] {-1, 3, 4, LEAST, MOST}) {
                check.throwsIndexOutOfBounds("limb(" + other + ", 0, " + k + ")", () -> x.limb(other, 0, k));
                check.throwsIndexOutOfBounds("limb(" + other + ", 1, " + k + ")", () -> x.limb(other, 1, k));
            }
        }
        check.due("limb(2, 0, 0)", x.limb(2, 0, 0), 5);
    }

    void limbRefusesAnotherPart() {
        PrivateCounts x = budgetOf(5, 2);
        for (int k : new int[] {-1, 0, 1, -2, LEAST, MOST}) {
            for (int other : new int[] {-1, 2, 3, LEAST, MOST}) {
                check.throwsIndexOutOfBounds("limb(0, " + other + ", " + k + ")", () -> x.limb(0, other, k));
                check.throwsIndexOutOfBounds("limb(2, " + other + ", " + k + ")", () -> x.limb(2, other, k));
            }
            check.throwsIndexOutOfBounds("limb(3, 2, " + k + ")", () -> x.limb(3, 2, k));
        }
    }
}

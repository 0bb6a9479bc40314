/** Promises 11 (budget), 12 (raise) and 16 (limb). */
public final class BudgetTest {
    private static final int LEAST = Integer.MIN_VALUE;
    private static final int MOST = Integer.MAX_VALUE;
    private static final Check check = new Check();

    public static void main(String[] args) {
        shortensWhatIsGiven();
        startsAnew();
        refusesOtherGrants();
        refusesOtherLimbs();
        growsToTheLongestDenominator();
        for (int which = 0; which <= 2; which++) {
            spendsAtTheLongestDenominator(which);
        }
        shortensWhatComesTogether();
        spendsDownToNothing();
        check.end();
    }

    private static void shortensWhatIsGiven() {
        int[][] grants = {{0, 1}, {0, 1000}, {6, 4}, {1000, 1000}, {MOST, 1}, {MOST, 1000}, {999, 1000},
            {2147483000, 1000}, {1, 1000}};
        for (int[] grant : grants) {
            PrivateCounts x = new PrivateCounts();
            Ratio due = Ratio.of(grant[0], grant[1]);
            x.budget(grant[0], grant[1]);
            due.isHeld(check, x, 0, "budget");
            Ratio.ZERO.isHeld(check, x, 1, "budget");
            due.isHeld(check, x, 2, "budget");
            x.raise(grant[0], grant[1]);
            due = due.plus(due);
            due.isHeld(check, x, 0, "raise");
            Ratio.ZERO.isHeld(check, x, 1, "raise");
            due.isHeld(check, x, 2, "raise");
        }
    }

    private static void startsAnew() {
        PrivateCounts x = new PrivateCounts();
        x.add(4);
        x.budget(2, 1);
        x.ask(0, 9, 1, 1, 0);
        x.ask(0, 9, 1, 2, 0);
        x.ask(0, 9, 3, 2, 0);
        Ratio.of(1, 1).isHeld(check, x, 1, "spent");
        for (int what = 0; what <= 2; what++) {
            check.due("told(" + what + ")", x.told(what), 1);
        }
        x.raise(1, 7);
        for (int what = 0; what <= 2; what++) {
            check.due("told(" + what + ") after raise", x.told(what), 1);
        }
        Ratio.of(15, 7).isHeld(check, x, 0, "raised");
        Ratio.of(1, 1).isHeld(check, x, 1, "raised");
        Ratio.of(8, 7).isHeld(check, x, 2, "raised");
        x.budget(3, 5);
        for (int what = 0; what <= 2; what++) {
            check.due("told(" + what + ") after budget", x.told(what), 0);
        }
        Ratio.of(3, 5).isHeld(check, x, 0, "anew");
        Ratio.ZERO.isHeld(check, x, 1, "anew");
        Ratio.of(3, 5).isHeld(check, x, 2, "anew");
        check.due("rows are kept", x.told(3), 1);
    }

    private static void refusesOtherGrants() {
        PrivateCounts x = new PrivateCounts();
        x.budget(7, 3);
        x.ask(0, 9, 1, 1, 0);
        int[][] wrong = {{-1, 1}, {LEAST, 1}, {1, 0}, {0, 0}, {1, -1}, {1, 1001}, {0, 1001}, {1, LEAST},
            {1, MOST}, {-1, 0}, {-1, 1001}};
        for (int[] grant : wrong) {
            String of = "(" + grant[0] + ", " + grant[1] + ")";
            check.throwsIllegalArgument("budget" + of, () -> x.budget(grant[0], grant[1]));
            check.throwsIllegalArgument("raise" + of, () -> x.raise(grant[0], grant[1]));
            Ratio.of(7, 3).isHeld(check, x, 0, "refused " + of);
            Ratio.of(1, 1).isHeld(check, x, 1, "refused " + of);
            Ratio.of(4, 3).isHeld(check, x, 2, "refused " + of);
            check.due("told(0)", x.told(0), 1);
        }
    }

    private static void refusesOtherLimbs() {
        PrivateCounts x = new PrivateCounts();
        x.budget(5, 2);
        for (int other : new int[] {-1, 3, LEAST, MOST}) {
            check.throwsIndexOutOfBounds("limb(" + other + ", 0, 0)", () -> x.limb(other, 0, 0));
            check.throwsIndexOutOfBounds("limb(" + other + ", 1, -1)", () -> x.limb(other, 1, -1));
        }
        for (int other : new int[] {-1, 2, LEAST, MOST}) {
            check.throwsIndexOutOfBounds("limb(0, " + other + ", 0)", () -> x.limb(0, other, 0));
            check.throwsIndexOutOfBounds("limb(2, " + other + ", -1)", () -> x.limb(2, other, -1));
        }
        for (int k : new int[] {1, 2, 63, 64, 65, MOST, -2, LEAST}) {
            for (int which = 0; which <= 2; which++) {
                check.due("limb(" + which + ", 0, " + k + ")", x.limb(which, 0, k), PrivateCounts.NONE);
                check.due("limb(" + which + ", 1, " + k + ")", x.limb(which, 1, k), PrivateCounts.NONE);
            }
        }
        check.due("limb(0, 0, 0)", x.limb(0, 0, 0), 5);
        check.due("limb(0, 1, 0)", x.limb(0, 1, 0), 2);
        check.due("limb(1, 0, 0)", x.limb(1, 0, 0), PrivateCounts.NONE);
        check.due("limb(1, 1, 0)", x.limb(1, 1, 0), 1);
    }

    /** The powers of primes up to 1000: with them all the denominator has its 1438 bits. */
    private static int[] longestPowers() {
        int[] powers = new int[168];
        int found = 0;
        for (int n = 2; n <= 1000; n++) {
            boolean prime = true;
            for (int d = 2; d < n; d++) {
                prime &= n % d != 0;
            }
            if (prime) {
                int power = n;
                while (power * n <= 1000) {
                    power *= n;
                }
                powers[found++] = power;
            }
        }
        return powers;
    }

    private static void growsToTheLongestDenominator() {
        PrivateCounts x = new PrivateCounts();
        Ratio granted = Ratio.of(MOST, 1);
        x.budget(MOST, 1);
        int calls = 1;
        for (int power : longestPowers()) {
            x.raise(MOST, power);
            granted = granted.plus(Ratio.of(MOST, power));
            calls++;
        }
        check.due("bits of the denominator", granted.denominator.bitLength(), 1438);
        for (; calls < 300; calls++) {
            x.raise(MOST, 1);
            granted = granted.plus(Ratio.of(MOST, 1));
        }
        granted.isHeld(check, x, 0, "the longest");
        // What is left has these limbs too; to look at all of them would be more than 512 calls.
        check.due("left has as many", x.limb(2, 0, -1), granted.limb(0, -1));
        check.due("left has the same", x.limb(2, 0, 40), granted.limb(0, 40));
    }

    // which is looked at in an object of its own each time, as no object has more than 512 calls.
    private static void spendsAtTheLongestDenominator(int which) {
        PrivateCounts x = new PrivateCounts();
        Ratio granted = Ratio.of(MOST, 1);
        Ratio spent = Ratio.ZERO;
        x.budget(MOST, 1);
        for (int power : longestPowers()) {
            x.raise(1, power);
            granted = granted.plus(Ratio.of(1, power));
            int cost = 3000 - power % 7;
            check.due("ask at " + power, x.ask(0, 9, cost, power, 0), 0);
            spent = spent.plus(Ratio.of(cost, power));
        }
        Ratio held = which == 0 ? granted : which == 1 ? spent : granted.minus(spent);
        held.isHeld(check, x, which, "spent for long");
    }

    private static void shortensWhatComesTogether() {
        PrivateCounts x = new PrivateCounts();
        Ratio granted = Ratio.of(1, 6);
        x.budget(1, 6);
        int[][] raises = {{1, 3}, {1, 2}, {1, 999}, {1, 998}, {997, 998}, {998, 999}, {1, 12}, {1, 4},
            {2, 3}, {0, 777}, {512, 1000}, {488, 1000}, {3, 512}, {1, 512}, {1, 128}, {500, 512}};
        for (int[] raise : raises) {
            x.raise(raise[0], raise[1]);
            granted = granted.plus(Ratio.of(raise[0], raise[1]));
            granted.isHeld(check, x, 0, "raise(" + raise[0] + ", " + raise[1] + ")");
            granted.isHeld(check, x, 2, "raise(" + raise[0] + ", " + raise[1] + ")");
        }
    }

    private static void spendsDownToNothing() {
        PrivateCounts x = new PrivateCounts();
        x.budget(2, 3);
        x.raise(3, 4);
        x.raise(1, 1);
        check.due("ask 3/4", x.ask(0, 0, 3, 4, 0), 0);
        check.due("ask 10/6", x.ask(0, 0, 10, 6, 0), 0);
        Ratio.of(29, 12).isHeld(check, x, 0, "all");
        Ratio.of(29, 12).isHeld(check, x, 1, "all");
        Ratio.ZERO.isHeld(check, x, 2, "all");
        check.due("ask once more", x.ask(0, 0, 1, 1, 0), PrivateCounts.REFUSED);
        check.due("told(2)", x.told(2), 1);
    }
}

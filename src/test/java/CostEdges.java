/** The boundaries of a COST: the terms, promises 13 (isEnough) and 14 (least). */
final class CostEdges {
    private static final int LEAST = Integer.MIN_VALUE;
    private static final int MOST = Integer.MAX_VALUE;
    private static final int[] NO_P = {-1, -2, 3001, 3002, LEAST, MOST};
    private static final int[] NO_Q = {0, -1, 1001, 1002, LEAST, MOST};

    private final Check check;

    CostEdges(Check check) {
        this.check = check;
    }

    private static PrivateCounts tableOf(int a, int b) {
        PrivateCounts x = new PrivateCounts();
        x.table(a, b, 0, 1);
        return x;
    }

    // What holds for a COST holds for isEnough() and ask().
    void pAndQHaveBounds() {
        PrivateCounts x = new PrivateCounts();
        x.budget(MOST, 1);
        for (int p : NO_P) {
            check.throwsIllegalArgument("isEnough(" + p + ", 1)", () -> x.isEnough(p, 1));
            check.throwsIllegalArgument("ask for " + p + " by 1", () -> x.ask(0, 9, p, 1, 0));
        }
        for (int q : NO_Q) {
            check.throwsIllegalArgument("isEnough(1, " + q + ")", () -> x.isEnough(1, q));
            check.throwsIllegalArgument("ask for 1 by " + q, () -> x.ask(0, 9, 1, q, 0));
        }
        check.due("isEnough(0, 1)", x.isEnough(0, 1), false);
        check.due("isEnough(0, 1000)", x.isEnough(0, 1000), false);
        check.due("isEnough(3000, 1)", x.isEnough(3000, 1), true);
        check.due("isEnough(3000, 1000)", x.isEnough(3000, 1000), true);
        check.due("ask for 0 by 1", x.ask(0, 9, 0, 1, 0), PrivateCounts.REFUSED);
        check.due("ask for 0 by 1000", x.ask(0, 9, 0, 1000, 0), PrivateCounts.REFUSED);
        check.due("ask for 3000 by 1", x.ask(0, 9, 3000, 1, 0), 0);
        check.due("ask for 3000 by 1000", x.ask(0, 9, 3000, 1000, 0), 0);
    }

    // Of all costs those that lie nearest to the logarithm of b / a; a row is p, q, a, b, and whether
    // it is enough. The first is above by a 7 millionth part of 1, the last below by a 260 millionth.
    void isEnoughFromBOverAOn() {
        int[][] nearest = {
            {1475, 758, 1, 7, 1}, {549, 677, 4, 9, 1}, {909, 755, 3, 10, 1}, {922, 613, 2, 9, 1},
            {713, 649, 1, 3, 1}, {713, 649, 2, 6, 1}, {713, 649, 3, 9, 1}, {191, 760, 7, 9, 1},
            {253, 365, 1, 2, 1}, {253, 365, 5, 10, 1},
            {445, 642, 1, 2, 0}, {445, 642, 5, 10, 0}, {1603, 996, 1, 5, 0}, {1603, 996, 2, 10, 0},
            {45, 337, 7, 8, 0}, {51, 433, 8, 9, 0}, {57, 541, 9, 10, 0}, {239, 951, 7, 9, 0},
            {1609, 898, 1, 6, 0},
        };
        for (int[] n : nearest) {
            PrivateCounts x = tableOf(n[2], n[3]);
            String of = n[0] + "/" + n[1] + " for " + n[2] + " and " + n[3];
            check.due(of, x.isEnough(n[0], n[1]), n[4] == 1);
            check.due(of + ", one more", x.isEnough(n[0] + 1, n[1]), true);
            check.due(of + ", one less", x.isEnough(n[0] - 1, n[1]), false);
        }
    }

    // e to 0 is 1, and b / a is above 1 however near a is to b.
    void zeroIsNeverEnough() {
        for (int b = 2; b <= 10; b++) {
            for (int a = 1; a < b; a++) {
                PrivateCounts x = tableOf(a, b);
                check.due("0 by 1 for " + a + " and " + b, x.isEnough(0, 1), false);
                check.due("0 by 1000 for " + a + " and " + b, x.isEnough(0, 1000), false);
                check.due("3 by 1 for " + a + " and " + b, x.isEnough(3, 1), true);
                check.due("3000 by 1000 for " + a + " and " + b, x.isEnough(3000, 1000), true);
                check.due("3000 by 1 for " + a + " and " + b, x.isEnough(3000, 1), true);
            }
        }
    }

    void isEnoughForTheTableOfNow() {
        PrivateCounts x = new PrivateCounts();
        check.due("1/1 for 1 and 2", x.isEnough(1, 1), true);
        x.table(1, 3, 0, 10);
        check.due("1/1 for 1 and 3", x.isEnough(1, 1), false);
        x.table(9, 10, 0, 10);
        check.due("1/9 for 9 and 10", x.isEnough(1, 9), true);
        check.due("1/10 for 9 and 10", x.isEnough(1, 10), false);
        x.table(1, 10, 0, 0);
        check.due("23/10 for 1 and 10, low is high", x.isEnough(23, 10), false);
        check.due("7/3 for 1 and 10, low is high", x.isEnough(7, 3), true);
    }

    void isEnoughRefusesAnotherP() {
        PrivateCounts x = new PrivateCounts();
        for (int p : NO_P) {
            for (int q : new int[] {1, 1000}) {
                check.throwsIllegalArgument("isEnough(" + p + ", " + q + ")", () -> x.isEnough(p, q));
            }
        }
    }

    void isEnoughRefusesAnotherQ() {
        PrivateCounts x = new PrivateCounts();
        for (int q : NO_Q) {
            for (int p : new int[] {0, 1, 3000, -1, 3001}) {
                check.throwsIllegalArgument("isEnough(" + p + ", " + q + ")", () -> x.isEnough(p, q));
            }
        }
    }

    // The very least p is enough and one less is not, for the least and the greatest q.
    void leastIsEnoughAndOneLessIsNot() {
        for (int b = 2; b <= 10; b++) {
            for (int a = 1; a < b; a++) {
                PrivateCounts x = tableOf(a, b);
                for (int q : new int[] {1, 2, 3, 997, 999, 1000}) {
                    int p = x.least(q);
                    String of = "least(" + q + ") for " + a + " and " + b;
                    check.due(of + " is enough", x.isEnough(p, q), true);
                    check.due(of + " less one is not", x.isEnough(p - 1, q), false);
                }
            }
        }
        check.due("least(1) for 9 and 10", tableOf(9, 10).least(1), 1);
        check.due("least(9) for 9 and 10", tableOf(9, 10).least(9), 1);
        check.due("least(10) for 9 and 10", tableOf(9, 10).least(10), 2);
        check.due("least(1) for 1 and 2", tableOf(1, 2).least(1), 1);
        check.due("least(1) for 1 and 3", tableOf(1, 3).least(1), 2);
        check.due("least(1) for 1 and 8", tableOf(1, 8).least(1), 3);
        check.due("least(1) for 1 and 10", tableOf(1, 10).least(1), 3);
        check.due("the greatest of all, least(1000) for 1 and 10", tableOf(1, 10).least(1000), 2303);
        check.due("least(898) for 1 and 6", tableOf(1, 6).least(898), 1610);
        check.due("least(758) for 1 and 7", tableOf(1, 7).least(758), 1475);
    }

    void leastRefusesWhatIsNotAsTold() {
        PrivateCounts x = new PrivateCounts();
        for (int q : NO_Q) {
            check.throwsIllegalArgument("least(" + q + ")", () -> x.least(q));
        }
        check.due("least(1)", x.least(1), 1);
        check.due("least(1000)", x.least(1000), 694);
    }
}

import java.math.BigInteger;

/** The boundaries of a QUESTION: the terms, promises 15 (ask) and 17 (told). */
final class QuestionEdges {
    private static final int LEAST = Integer.MIN_VALUE;
    private static final int MOST = Integer.MAX_VALUE;

    private final Check check;

    QuestionEdges(Check check) {
        this.check = check;
    }

    /** Rows 0, 1 .. rows - 1, and a budget that no test spends. */
    private static PrivateCounts rowsAndBudget(int rows) {
        PrivateCounts x = new PrivateCounts();
        for (int v = 0; v < rows; v++) {
            x.add(v);
        }
        x.budget(MOST, 1);
        return x;
    }

    /** By the last coins of all outcomes each true number is told from each other. */
    private void asksAbout(PrivateCounts x, int lower, int upper, int number) {
        String of = "ask from " + lower + " to " + upper + ", which is " + number;
        for (int z = x.told(4); z <= x.told(5); z++) {
            long coin = x.upTo(number, z) - 1;
            check.due(of + ", coin " + coin, x.ask(lower, upper, 3, 1, coin), z);
        }
    }

    void countsFromLowerToUpper() {
        PrivateCounts x = rowsAndBudget(8);
        asksAbout(x, 0, 7, 8);
        asksAbout(x, 1, 6, 6);
        asksAbout(x, 3, 3, 1);
        asksAbout(x, 4, 3, 0);
        asksAbout(x, 8, MOST, 0);
        asksAbout(x, LEAST, -1, 0);
        asksAbout(x, LEAST, 0, 1);
        asksAbout(x, 7, MOST, 1);
        asksAbout(x, LEAST, MOST, 8);
        asksAbout(x, MOST, LEAST, 0);
        PrivateCounts none = rowsAndBudget(0);
        asksAbout(none, LEAST, MOST, 0);
    }

    void aLesserCountIsLow() {
        PrivateCounts x = rowsAndBudget(6);
        x.table(1, 2, 4, 9);
        asksAbout(x, 0, -1, 4);
        asksAbout(x, 0, 2, 4);
        asksAbout(x, 0, 3, 4);
        asksAbout(x, 0, 4, 5);
        x.table(1, 2, 7, 9);
        asksAbout(x, 0, 5, 7);
        x.table(9, 10, 1000, 1000);
        asksAbout(x, 0, 5, 1000);
        x.table(9, 10, 986, 1000);
        asksAbout(x, 0, 5, 986);
    }

    void aGreaterCountIsHigh() {
        PrivateCounts x = rowsAndBudget(6);
        x.table(1, 2, -3, 4);
        asksAbout(x, 0, 2, 3);
        asksAbout(x, 0, 3, 4);
        asksAbout(x, 0, 4, 4);
        asksAbout(x, 0, 5, 4);
        x.table(1, 2, -9, -2);
        asksAbout(x, 0, -1, -2);
        asksAbout(x, 0, 5, -2);
        x.table(9, 10, -1000, -986);
        asksAbout(x, 0, 5, -986);
        PrivateCounts full = rowsAndBudget(60);
        asksAbout(full, LEAST, MOST, 10);
        full.table(1, 2, 46, 60);
        asksAbout(full, LEAST, MOST, 60);
        full.table(1, 2, 45, 59);
        asksAbout(full, LEAST, MOST, 59);
    }

    // Of the very number and with the very coin, as draw() would.
    void thatIsXAndZIsDrawn() {
        PrivateCounts x = rowsAndBudget(1);
        x.table(1, 2, 0, 2);
        String due = "000011112222";
        for (int coin = 0; coin < 12; coin++) {
            check.due("ask with the coin " + coin, x.ask(0, 0, 1, 1, coin), due.charAt(coin) - '0');
        }
    }

    void isRefusedWhenItsCostIsNotEnough() {
        PrivateCounts x = rowsAndBudget(0);
        int[][] costs = {{0, 1}, {0, 1000}, {693, 1000}, {445, 642}, {1, 2}};
        for (int i = 0; i < costs.length; i++) {
            check.due("too little", x.ask(0, 9, costs[i][0], costs[i][1], 0), PrivateCounts.REFUSED);
            check.due("told(1)", x.told(1), i + 1);
        }
        check.due("just enough", x.ask(0, 9, 694, 1000, 0), 0);
        check.due("barely enough", x.ask(0, 9, 253, 365, 0), 0);
        check.due("told(1)", x.told(1), costs.length);
        check.due("told(2)", x.told(2), 0);
        check.due("told(0)", x.told(0), 2);
    }

    // THE BUDGET is first just the sum of three costs, then less by the least that there is, one by
    // 997 * 991 * 983; what is SPENT before the last question is the same in both.
    void isRefusedWhenTheSumIsMoreThanTheBudget() {
        BigInteger sum = BigInteger.valueOf(3000L * 991 * 983 + 2000L * 997 * 983 + 1000L * 997 * 991);
        for (int less = -1; less <= 1; less++) {
            PrivateCounts x = new PrivateCounts();
            BudgetEdges.grant(x, sum.subtract(BigInteger.valueOf(less)));
            check.due("the first", x.ask(0, 9, 3000, 997, 0), 0);
            check.due("the second", x.ask(0, 9, 2000, 991, 0), 0);
            boolean refused = less == 1;
            check.due("the third, less by " + less, x.ask(0, 9, 1000, 983, 0),
                refused ? PrivateCounts.REFUSED : 0);
            check.due("told(2)", x.told(2), refused ? 1 : 0);
            check.due("told(0)", x.told(0), refused ? 2 : 3);
        }
        PrivateCounts x = new PrivateCounts();
        x.budget(699, 997);
        check.due("702/1000 of 699/997", x.ask(0, 9, 702, 1000, 0), PrivateCounts.REFUSED);
        check.due("701/1000 of 699/997", x.ask(0, 9, 701, 1000, 0), 0);
        check.due("3000 of nearly nothing", x.ask(0, 9, 3000, 1, 0), PrivateCounts.REFUSED);
        x.budget(0, 1);
        check.due("1 of nothing", x.ask(0, 9, 1, 1, 0), PrivateCounts.REFUSED);
        check.due("1/1000 of nothing is not enough", x.ask(0, 9, 1, 1000, 0), PrivateCounts.REFUSED);
        check.due("told(1), for what is named first", x.told(1), 1);
        check.due("told(2)", x.told(2), 1);
    }

    void elseSpentBecomesThisSum() {
        PrivateCounts x = new PrivateCounts();
        x.budget(10, 1);
        x.ask(0, 9, 694, 1000, 0);
        Ratio.of(694, 1000).isHeld(check, x, 1, "the first");
        x.ask(0, 9, 805, 1000, 0);
        Ratio.of(1499, 1000).isHeld(check, x, 1, "the second");
        x.ask(0, 9, 1501, 1000, 0);
        Ratio.of(3, 1).isHeld(check, x, 1, "the third");
        x.ask(0, 9, 7, 1, 0);
        Ratio.of(10, 1).isHeld(check, x, 1, "all");
        Ratio.ZERO.isHeld(check, x, 2, "all");
        Ratio.of(10, 1).isHeld(check, x, 0, "all");
    }

    void askAnswersWhatWasDrawn() {
        PrivateCounts x = rowsAndBudget(0);
        check.due("the first coin", x.ask(0, 9, 1, 1, 0), 0);
        check.due("the last coin", x.ask(0, 9, 1, 1, 3071), 10);
        x.table(9, 10, -1000, -986);
        check.due("the first of the greatest table", x.ask(0, 9, 1, 1, 0), -1000);
        check.due("the last of the greatest table", x.ask(0, 9, 1, 1, 1899999999999999L), -986);
        x.table(9, 10, 986, 1000);
        check.due("the last there is", x.ask(0, 9, 1, 1, 1899999999999999L), 1000);
        x.table(1, 2, -1, -1);
        check.due("-1, which is drawn", x.ask(0, 9, 1, 1, 2), -1);
        check.due("told(0)", x.told(0), 6);
    }

    void askAnswersRefused() {
        PrivateCounts x = new PrivateCounts();
        check.due("for the budget", x.ask(0, 9, 1, 1, 0), Integer.MIN_VALUE);
        check.due("for the cost", x.ask(0, 9, 0, 1, 0), Integer.MIN_VALUE);
        x.budget(1, 1);
        check.due("for the cost alone", x.ask(0, 9, 693, 1000, 3071), Integer.MIN_VALUE);
        check.due("for the budget alone", x.ask(0, 9, 1001, 1000, 3071), Integer.MIN_VALUE);
    }

    // Where it would be refused as well, it throws; where it throws, nothing is counted.
    void askRefusesAnotherPOrQ() {
        PrivateCounts x = new PrivateCounts();
        x.budget(5, 1);
        for (int p : new int[] {-1, 3001, LEAST, MOST}) {
            check.throwsIllegalArgument("p " + p, () -> x.ask(0, 9, p, 1, 0));
        }
        for (int q : new int[] {0, -1, 1001, LEAST, MOST}) {
            check.throwsIllegalArgument("q " + q, () -> x.ask(0, 9, 1, q, 0));
            check.throwsIllegalArgument("0 by " + q, () -> x.ask(0, 9, 0, q, 0));
        }
        isUnasked(x);
    }

    void askRefusesAnotherCoin() {
        PrivateCounts x = new PrivateCounts();
        x.budget(5, 1);
        for (long coin : new long[] {-1, 3072, 3073, 1L << 32, Long.MIN_VALUE, Long.MAX_VALUE}) {
            check.throwsIllegalArgument("coin " + coin, () -> x.ask(0, 9, 1, 1, coin));
            check.throwsIllegalArgument("coin " + coin + ", not enough", () -> x.ask(0, 9, 0, 1, coin));
            check.throwsIllegalArgument("coin " + coin + ", too much", () -> x.ask(0, 9, 6, 1, coin));
        }
        check.throwsIllegalArgument("all of them", () -> x.ask(9, 0, -1, 0, -1));
        isUnasked(x);
        check.due("the last coin", x.ask(0, 9, 1, 1, 3071), 10);
    }

    private void isUnasked(PrivateCounts x) {
        for (int what = 0; what <= 2; what++) {
            check.due("told(" + what + ")", x.told(what), 0);
        }
    }

    void tellsHowManyWereAnswered() {
        PrivateCounts x = rowsAndBudget(3);
        for (int i = 1; i <= 100; i++) {
            x.ask(0, 9, 1, 1, 0);
            check.due("told(0)", x.told(0), i);
        }
        x.ask(0, 9, 0, 1, 0);
        x.draw(3, 0);
        check.due("told(0) stays", x.told(0), 100);
    }

    void tellsHowManyCostsWereNotEnough() {
        PrivateCounts x = new PrivateCounts();
        for (int i = 1; i <= 100; i++) {
            x.ask(0, 9, 0, 1, 0);
            check.due("told(1)", x.told(1), i);
        }
        x.ask(0, 9, 1, 1, 0);
        x.isEnough(0, 1);
        check.due("told(1) stays", x.told(1), 100);
        check.due("told(2)", x.told(2), 1);
    }

    void tellsHowManyWereOverTheBudget() {
        PrivateCounts x = new PrivateCounts();
        for (int i = 1; i <= 100; i++) {
            x.ask(0, 9, 1, 1, 0);
            check.due("told(2)", x.told(2), i);
        }
        x.ask(0, 9, 0, 1, 0);
        x.raise(1, 1);
        x.ask(0, 9, 1, 1, 0);
        check.due("told(2) stays", x.told(2), 100);
        check.due("told(1)", x.told(1), 1);
        check.due("told(0)", x.told(0), 1);
    }

    void tellsHowManyRows() {
        PrivateCounts x = new PrivateCounts();
        check.due("told(3) of none", x.told(3), 0);
        for (int i = 1; i <= 60; i++) {
            x.add(0);
        }
        check.due("told(3) of sixty", x.told(3), 60);
        x.add(0);
        check.due("told(3) of sixty still", x.told(3), 60);
        x.remove(59);
        check.due("told(3) of fifty-nine", x.told(3), 59);
    }

    void tellsTheTable() {
        PrivateCounts x = new PrivateCounts();
        int[][] tables = {{1, 2, -1000, -986}, {9, 10, 986, 1000}, {1, 10, 0, 0}, {3, 7, -1, 13}};
        for (int[] t : tables) {
            x.table(t[0], t[1], t[2], t[3]);
            check.due("told(4)", x.told(4), t[2]);
            check.due("told(5)", x.told(5), t[3]);
            check.due("told(6)", x.told(6), t[0]);
            check.due("told(7)", x.told(7), t[1]);
        }
    }

    void tellsNothingElse() {
        PrivateCounts x = new PrivateCounts();
        for (int what : new int[] {-1, -2, 8, 9, 256, LEAST, LEAST + 7, MOST}) {
            check.throwsIndexOutOfBounds("told(" + what + ")", () -> x.told(what));
        }
        check.due("told(0)", x.told(0), 0);
        check.due("told(7)", x.told(7), 2);
    }
}

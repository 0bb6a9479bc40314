/** Promises 15 (ask) and 17 (told). */
public final class AskTest {
    private static final int LEAST = Integer.MIN_VALUE;
    private static final int MOST = Integer.MAX_VALUE;
    private static final Check check = new Check();

    public static void main(String[] args) {
        drawsForWhatIsCounted();
        keepsTheCountInTheRange();
        refusesACostThatIsNotEnough();
        refusesWhatIsMoreThanTheBudget();
        refusesByTheCostFirst();
        refusesWrongInputs();
        looksAtTheTableOfTheDay();
        tellsEightThings();
        check.end();
    }

    private static void drawsForWhatIsCounted() {
        PrivateCounts x = new PrivateCounts();
        PrivateCounts same = new PrivateCounts();
        for (int v : new int[] {5, 6, 6, 7, -20, 100}) {
            x.add(v);
        }
        x.budget(500, 1);
        int[][] bounds = {{5, 7, 4}, {6, 6, 2}, {7, 5, 0}, {LEAST, MOST, 6}, {-20, -20, 1}, {8, 99, 0}};
        int asked = 0;
        for (int[] bound : bounds) {
            for (long coin : new long[] {0, 1, 500, 1023, 1024, 2000, 2047, 2048, 3070, 3071}) {
                check.due("ask(" + bound[0] + ", " + bound[1] + ", 3, 4, " + coin + ")",
                    x.ask(bound[0], bound[1], 3, 4, coin), same.draw(bound[2], coin));
                asked++;
                check.due("told(0)", x.told(0), asked);
            }
        }
        Ratio.of(45, 1).isHeld(check, x, 1, "sixty at 3/4");
        Ratio.of(455, 1).isHeld(check, x, 2, "sixty at 3/4");
        check.due("rows are kept", x.told(3), 6);
    }

    private static void keepsTheCountInTheRange() {
        PrivateCounts x = new PrivateCounts();
        x.budget(50, 1);
        x.add(1);
        x.add(2);
        x.add(3);
        // With a 1 and b 10 a coin in the middle hits x itself.
        x.table(1, 10, 5, 8);
        check.due("a lesser count is low", x.ask(0, 9, 3, 1, 5000), 5);
        x.table(1, 10, -8, 1);
        check.due("a greater count is high", x.ask(0, 9, 3, 1, x.all() / 2), 1);
        x.table(1, 10, -1000, -990);
        check.due("far below", x.ask(0, 9, 3, 1, x.all() / 2), -990);
        x.table(1, 10, 990, 1000);
        check.due("far above", x.ask(0, 9, 3, 1, x.all() / 2), 990);
        x.table(1, 10, 0, 8);
        check.due("between", x.ask(0, 9, 3, 1, x.all() / 2), 3);
        x.table(1, 10, 3, 3);
        check.due("the only one", x.ask(0, 9, 3, 1, 10), 3);
        x.table(1, 10, -1, -1);
        check.due("answers -1 and asks", x.ask(0, 9, 3, 1, 0), -1);
        check.due("told(0)", x.told(0), 7);
        Ratio.of(21, 1).isHeld(check, x, 1, "seven at 3");
    }

    private static void refusesACostThatIsNotEnough() {
        PrivateCounts x = new PrivateCounts();
        x.budget(10, 1);
        check.due("ask for 693/1000", x.ask(0, 9, 693, 1000, 0), PrivateCounts.REFUSED);
        check.due("ask for 0", x.ask(0, 9, 0, 1, 0), PrivateCounts.REFUSED);
        check.due("told(0)", x.told(0), 0);
        check.due("told(1)", x.told(1), 2);
        check.due("told(2)", x.told(2), 0);
        Ratio.ZERO.isHeld(check, x, 1, "refused");
        Ratio.of(10, 1).isHeld(check, x, 2, "refused");
        check.due("ask for 694/1000", x.ask(0, 9, 694, 1000, 0), 0);
        Ratio.of(694, 1000).isHeld(check, x, 1, "answered");
        check.due("told(0)", x.told(0), 1);
        check.due("told(1)", x.told(1), 2);
    }

    private static void refusesWhatIsMoreThanTheBudget() {
        PrivateCounts x = new PrivateCounts();
        x.budget(1699, 1000);
        check.due("ask for 1", x.ask(0, 9, 1, 1, 0), 0);
        check.due("ask for 700/1000", x.ask(0, 9, 700, 1000, 0), PrivateCounts.REFUSED);
        check.due("told(2)", x.told(2), 1);
        check.due("told(0)", x.told(0), 1);
        Ratio.of(1, 1).isHeld(check, x, 1, "refused");
        check.due("ask for all that is left", x.ask(0, 9, 699, 1000, 0), 0);
        Ratio.ZERO.isHeld(check, x, 2, "nothing is left");
        Ratio.of(1699, 1000).isHeld(check, x, 1, "nothing is left");
        check.due("ask for more", x.ask(0, 9, 3000, 1, 0), PrivateCounts.REFUSED);
        check.due("told(2)", x.told(2), 2);
        x.raise(3000, 1);
        check.due("ask again", x.ask(0, 9, 3000, 1, 0), 0);
        check.due("told(0)", x.told(0), 3);
        // 699/997 is 0.7011..
        x.budget(699, 997);
        check.due("ask for a little more", x.ask(0, 9, 702, 1000, 0), PrivateCounts.REFUSED);
        check.due("ask for a little less", x.ask(0, 9, 701, 1000, 0), 0);
    }

    private static void refusesByTheCostFirst() {
        PrivateCounts x = new PrivateCounts();
        check.due("ask for too little of nothing", x.ask(0, 9, 1, 2, 0), PrivateCounts.REFUSED);
        check.due("told(1)", x.told(1), 1);
        check.due("told(2)", x.told(2), 0);
    }

    private static void refusesWrongInputs() {
        PrivateCounts x = new PrivateCounts();
        x.budget(5, 1);
        for (int p : new int[] {-1, 3001, LEAST, MOST}) {
            check.throwsIllegalArgument("ask for p " + p, () -> x.ask(0, 9, p, 1, 0));
        }
        for (int q : new int[] {0, -1, 1001, LEAST, MOST}) {
            check.throwsIllegalArgument("ask for q " + q, () -> x.ask(0, 9, 1, q, 0));
        }
        for (long coin : new long[] {-1, 3072, 3073, 1L << 32, Long.MIN_VALUE, Long.MAX_VALUE}) {
            check.throwsIllegalArgument("ask with coin " + coin, () -> x.ask(0, 9, 1, 1, coin));
            check.throwsIllegalArgument("ask for 0 with coin " + coin, () -> x.ask(0, 9, 0, 1, coin));
            check.throwsIllegalArgument("ask for 6 with coin " + coin, () -> x.ask(0, 9, 6, 1, coin));
        }
        for (int what = 0; what <= 2; what++) {
            check.due("told(" + what + ")", x.told(what), 0);
        }
        Ratio.ZERO.isHeld(check, x, 1, "nothing was asked");
        check.due("the last coin", x.ask(0, 9, 3000, 1000, 3071), 10);
    }

    private static void looksAtTheTableOfTheDay() {
        PrivateCounts x = new PrivateCounts();
        x.budget(10, 1);
        x.table(1, 10, 0, 3);
        check.due("too little for 1 and 10", x.ask(0, 9, 1, 1, 0), PrivateCounts.REFUSED);
        x.table(9, 10, 0, 3);
        check.due("enough for 9 and 10", x.ask(0, 9, 1, 1, 0), 0);
        check.due("D has grown", x.ask(0, 9, 1, 1, 18999), 3);
        check.throwsIllegalArgument("the coin is D", () -> x.ask(0, 9, 1, 1, 19000));
        check.due("told(0)", x.told(0), 2);
        check.due("told(1)", x.told(1), 1);
    }

    private static void tellsEightThings() {
        PrivateCounts x = new PrivateCounts();
        x.budget(2, 1);
        x.table(3, 8, -7, 6);
        for (int i = 0; i < 5; i++) {
            x.add(i);
        }
        x.remove(2);
        x.ask(0, 9, 1, 1, 0);
        x.ask(0, 9, 98, 100, 0);
        x.ask(0, 9, 97, 100, 0);
        x.ask(0, 9, 1, 10, 0);
        x.ask(0, 9, 2, 1, 0);
        int[] told = {1, 3, 1, 4, -7, 6, 3, 8};
        for (int what = 0; what < told.length; what++) {
            check.due("told(" + what + ")", x.told(what), told[what]);
        }
        for (int what : new int[] {-1, 8, LEAST, MOST}) {
            check.throwsIndexOutOfBounds("told(" + what + ")", () -> x.told(what));
        }
    }
}

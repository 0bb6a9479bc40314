import java.util.function.Consumer;

/** The terms' last sentence: what calls throw, and that refused ones change nothing. */
final class RefusedCalls {
    private static final int LEAST = Integer.MIN_VALUE;
    private static final int MOST = Integer.MAX_VALUE;

    private final Check check;

    RefusedCalls(Check check) {
        this.check = check;
    }

    /** Rows, a table of its own, a budget partly spent, one question of each kind. */
    private static PrivateCounts used() {
        PrivateCounts x = new PrivateCounts();
        x.add(1);
        x.add(-1);
        x.add(LEAST);
        x.table(2, 5, -3, 4);
        x.budget(7, 3);
        x.ask(0, 9, 11, 12, 7);
        x.ask(0, 9, 10, 11, 7);
        x.ask(0, 9, 2, 1, 7);
        return x;
    }

    private void changesNothing(String call, Consumer<PrivateCounts> code) {
        PrivateCounts x = used();
        String before = State.of(x);
        try {
            code.accept(x);
        } catch (IllegalArgumentException | IndexOutOfBoundsException e) {
            // Which one is due, the other tests tell.
        }
        check.due(call + " changes nothing", State.of(x).equals(before), true);
    }

    // No call names two kinds of exception: with several things wrong it is the one kind it names.
    void throwTheOneNamedFirst() {
        PrivateCounts x = used();
        check.throwsIndexOutOfBounds("remove", () -> x.remove(3));
        check.throwsIllegalArgument("table", () -> x.table(5, 0, 2000, -2000));
        check.throwsIllegalArgument("draw", () -> x.draw(5, -1));
        check.throwsIllegalArgument("isNear", () -> x.isNear(5, -4));
        check.throwsIllegalArgument("budget", () -> x.budget(-1, 0));
        check.throwsIllegalArgument("raise", () -> x.raise(-1, 1001));
        check.throwsIllegalArgument("isEnough", () -> x.isEnough(-1, 0));
        check.throwsIllegalArgument("least", () -> x.least(0));
        check.throwsIllegalArgument("ask", () -> x.ask(9, 0, 3001, 1001, -1));
        check.throwsIndexOutOfBounds("limb", () -> x.limb(3, 2, -2));
        check.throwsIndexOutOfBounds("told", () -> x.told(8));
    }

    // Nothing but that: those that name nothing, and a k that is none, are answered.
    void throwWhatTheirCommentsName() {
        int[] extremes = {LEAST, LEAST + 1, -1, 0, 1, MOST - 1, MOST};
        PrivateCounts x = used();
        int answers = 0;
        for (int one : extremes) {
            for (int other : extremes) {
                answers += x.count(one, other) >= 0 ? 1 : 0;
                answers += x.weight(one, other) >= 0 ? 1 : 0;
                answers += x.upTo(one, other) >= 0 ? 1 : 0;
                answers += x.limb(0, 0, other) >= -1 ? 1 : 0;
            }
        }
        check.due("answers", answers, 4 * 49);
        for (int v : extremes) {
            check.due("add(" + v + ")", x.add(v) >= 0, true);
        }
        check.due("all()", x.all() > 0, true);
    }

    void aCallThatThrowsChangesNothing() {
        changesNothing("remove(-1)", x -> x.remove(-1));
        changesNothing("remove(3)", x -> x.remove(3));
        changesNothing("remove(MOST)", x -> x.remove(MOST));
        changesNothing("table of a wrong a", x -> x.table(0, 3, 0, 10));
        changesNothing("table of a wrong b", x -> x.table(1, 11, 0, 10));
        changesNothing("table of a wrong range", x -> x.table(1, 3, 0, 15));
        changesNothing("table of a wrong low", x -> x.table(1, 3, -1001, -1000));
        changesNothing("table of a wrong high", x -> x.table(1, 3, 1000, 1001));
        changesNothing("draw of another number", x -> x.draw(5, 0));
        changesNothing("draw with another coin", x -> x.draw(4, x.all()));
        changesNothing("isNear of another number", x -> x.isNear(4, 5));
        changesNothing("budget of a wrong num", x -> x.budget(-1, 1));
        changesNothing("budget of a wrong den", x -> x.budget(1, 1001));
        changesNothing("raise of a wrong num", x -> x.raise(-1, 1));
        changesNothing("raise of a wrong den", x -> x.raise(1, 0));
        changesNothing("isEnough of a wrong p", x -> x.isEnough(3001, 1));
        changesNothing("isEnough of a wrong q", x -> x.isEnough(1, 1001));
        changesNothing("least of a wrong q", x -> x.least(1001));
        changesNothing("ask with a wrong p", x -> x.ask(0, 9, 3001, 1, 0));
        changesNothing("ask with a wrong q", x -> x.ask(0, 9, 1, 0, 0));
        changesNothing("ask with a wrong coin", x -> x.ask(0, 9, 1, 1, x.all()));
        changesNothing("ask for too little with a wrong coin", x -> x.ask(0, 9, 0, 1, -1));
        changesNothing("ask for too much with a wrong coin", x -> x.ask(0, 9, 3000, 1, -1));
        changesNothing("limb of another which", x -> x.limb(3, 0, 0));
        changesNothing("limb of another part", x -> x.limb(0, 2, 0));
        changesNothing("told of another what", x -> x.told(8));
    }

    void anAnswerNoneChangesNothing() {
        PrivateCounts x = new PrivateCounts();
        for (int i = 0; i < 60; i++) {
            x.add(100 + i);
        }
        String before = State.of(x);
        check.due("add a 61st", x.add(3), PrivateCounts.NONE);
        check.due("limb(0, 0, 0)", x.limb(0, 0, 0), PrivateCounts.NONE);
        check.due("limb(2, 1, 1)", x.limb(2, 1, 1), PrivateCounts.NONE);
        check.due("NONE changes nothing", State.of(x).equals(before), true);
        for (int row = 59; row >= 0; row--) {
            check.due("remove(" + row + ")", x.remove(row), 100 + row);
        }
    }

    // All but the two counts of refused questions; 17/12 are left.
    void anAnswerRefusedChangesNothing() {
        for (int[] cost : new int[][] {{0, 1}, {10, 11}, {18, 12}, {1417, 1000}, {3000, 1}}) {
            PrivateCounts x = used();
            String before = State.of(x).replaceAll("told.[12]. [0-9]+", "");
            String of = "ask for " + cost[0] + "/" + cost[1];
            check.due(of, x.ask(0, 9, cost[0], cost[1], 7), PrivateCounts.REFUSED);
            check.due(of + " changes nothing", State.of(x).replaceAll("told.[12]. [0-9]+", "").equals(before), true);
            check.due("all that is left", x.ask(0, 9, 17, 12, 0), -3);
        }
    }

    // One of the two by one, the other not.
    void butHowManyWereRefused() {
        for (int[] cost : new int[][] {{0, 1, 1}, {10, 11, 1}, {18, 12, 2}, {1417, 1000, 2}, {3000, 1, 2}}) {
            PrivateCounts x = used();
            x.ask(0, 9, cost[0], cost[1], 7);
            check.due("told(1) behind " + cost[0] + "/" + cost[1], x.told(1), cost[2] == 1 ? 2 : 1);
            check.due("told(2) behind " + cost[0] + "/" + cost[1], x.told(2), cost[2] == 2 ? 2 : 1);
        }
    }

    // The row was NONE or REFUSED itself, and goes all the same.
    void removeOfNoneOrRefusedIsAChange() {
        PrivateCounts x = used();
        check.due("remove(2)", x.remove(2), PrivateCounts.REFUSED);
        check.due("told(3)", x.told(3), 2);
        check.due("remove(1)", x.remove(1), PrivateCounts.NONE);
        check.due("told(3)", x.told(3), 1);
        check.due("count", x.count(LEAST, -1), 0);
    }

    // What is drawn is -1, as NONE is: it is answered, and paid for.
    void askThatDrawsMinusOneIsAChange() {
        PrivateCounts x = used();
        x.table(2, 5, -1, -1);
        check.due("ask", x.ask(0, 9, 1, 1, 0), -1);
        check.due("told(0)", x.told(0), 2);
        Ratio.of(23, 12).isHeld(check, x, 1, "spent");
        Ratio.of(5, 12).isHeld(check, x, 2, "left");
    }
}

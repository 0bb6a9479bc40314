import java.util.ArrayList;
import java.util.List;

/** The boundaries of ROWS: the terms, promises 2 (add), 3 (remove) and 4 (count). */
final class RowEdges {
    private static final int LEAST = Integer.MIN_VALUE;
    private static final int MOST = Integer.MAX_VALUE;
    private static final int[] NOT_BELOW_SIXTY = {60, 61, 1000, MOST, -1, -2, LEAST};

    private final Check check;

    RowEdges(Check check) {
        this.check = check;
    }

    private static PrivateCounts rowsOf(int... values) {
        PrivateCounts x = new PrivateCounts();
        for (int v : values) {
            x.add(v);
        }
        return x;
    }

    /** Sixty rows: 100, 101 .. 159. */
    private static PrivateCounts full() {
        PrivateCounts x = new PrivateCounts();
        for (int i = 0; i < 60; i++) {
            x.add(100 + i);
        }
        return x;
    }

    void areInts() {
        int[] values = {LEAST, LEAST + 1, -1, 0, 1, MOST - 1, MOST};
        PrivateCounts x = rowsOf(values);
        for (int v : values) {
            check.due("count of the row " + v, x.count(v, v), 1);
        }
        for (int row = values.length - 1; row >= 0; row--) {
            check.due("remove(" + row + ")", x.remove(row), values[row]);
        }
    }

    void areAtMostSixty() {
        PrivateCounts x = full();
        check.due("told(3) of sixty", x.told(3), 60);
        x.add(200);
        check.due("told(3) behind a 61st add", x.told(3), 60);
        check.due("count of the 61st", x.count(200, 200), 0);
        check.due("count of all", x.count(LEAST, MOST), 60);
        for (int i = 59; i >= 0; i--) {
            check.due("remove(" + i + ")", x.remove(i), 100 + i);
        }
    }

    void haveNumbersFromZeroOn() {
        PrivateCounts x = new PrivateCounts();
        for (int turn = 0; turn < 3; turn++) {
            check.due("the first add", x.add(7), 0);
            check.due("the second add", x.add(8), 1);
            check.due("remove(0)", x.remove(0), 7);
            check.due("remove(0), the one that was 1", x.remove(0), 8);
        }
    }

    void thoseBehindGetOneLess() {
        PrivateCounts x = full();
        List<Integer> due = new ArrayList<>();
        for (int i = 0; i < 60; i++) {
            due.add(100 + i);
        }
        // The first, the last, one in the middle, the last but one; then a row behind them all.
        for (int row : new int[] {0, 58, 29, 55, 0, 1}) {
            check.due("remove(" + row + ")", x.remove(row), due.remove(row));
        }
        check.due("add", x.add(500), due.size());
        due.add(500);
        while (!due.isEmpty()) {
            int row = due.size() / 2;
            check.due("remove(" + row + ") of " + due.size(), x.remove(row), due.remove(row));
        }
    }

    void aRowMore() {
        PrivateCounts x = new PrivateCounts();
        for (int i = 1; i <= 60; i++) {
            x.add(4);
            check.due("told(3)", x.told(3), i);
            check.due("count of one value " + i + " times", x.count(4, 4), i);
        }
    }

    void addAnswersItsNumber() {
        PrivateCounts x = new PrivateCounts();
        for (int i = 0; i < 60; i++) {
            check.due("add", x.add(-1), i);
        }
        x.remove(10);
        check.due("add behind fifty-nine", x.add(-1), 59);
    }

    void addAnswersNoneWhenThereAreSixty() {
        PrivateCounts x = full();
        check.due("add a 61st", x.add(1), PrivateCounts.NONE);
        check.due("add a 62nd", x.add(LEAST), PrivateCounts.NONE);
        x.remove(0);
        check.due("add a 60th", x.add(1), 59);
        check.due("add a 61st again", x.add(1), PrivateCounts.NONE);
    }

    void aRowGoes() {
        PrivateCounts x = full();
        x.remove(59);
        check.due("the last has gone", x.count(159, 159), 0);
        check.due("told(3)", x.told(3), 59);
        x.remove(0);
        check.due("the first has gone", x.count(100, 100), 0);
        check.due("told(3)", x.told(3), 58);
        PrivateCounts one = rowsOf(3);
        one.remove(0);
        check.due("the only one has gone", one.count(LEAST, MOST), 0);
        check.due("told(3) of none", one.told(3), 0);
    }

    // NONE and REFUSED are rows like others here.
    void removeAnswersWhatItWas() {
        PrivateCounts x = rowsOf(PrivateCounts.NONE, PrivateCounts.REFUSED, 0, MOST);
        check.due("remove(1)", x.remove(1), LEAST);
        check.due("told(3)", x.told(3), 3);
        check.due("remove(0)", x.remove(0), -1);
        check.due("told(3)", x.told(3), 2);
        check.due("remove(1)", x.remove(1), MOST);
        check.due("remove(0)", x.remove(0), 0);
    }

    void thereIsNoSuchRow() {
        PrivateCounts none = new PrivateCounts();
        check.throwsIndexOutOfBounds("remove(0) of none", () -> none.remove(0));
        check.throwsIndexOutOfBounds("remove(-1) of none", () -> none.remove(-1));
        PrivateCounts x = full();
        for (int row : NOT_BELOW_SIXTY) {
            check.throwsIndexOutOfBounds("remove(" + row + ") of sixty", () -> x.remove(row));
        }
        x.remove(30);
        check.throwsIndexOutOfBounds("remove(59) of fifty-nine", () -> x.remove(59));
        check.due("remove(58) of fifty-nine", x.remove(58), 159);
        check.throwsIndexOutOfBounds("remove(58) of fifty-eight", () -> x.remove(58));
        check.due("told(3)", x.told(3), 58);
    }

    void howManyRowsAreBetween() {
        check.due("count of none", new PrivateCounts().count(LEAST, MOST), 0);
        PrivateCounts x = full();
        check.due("all sixty, though the range ends at 10", x.count(LEAST, MOST), 60);
        check.due("just from the least to the greatest", x.count(100, 159), 60);
        check.due("without the least", x.count(101, 159), 59);
        check.due("without the greatest", x.count(100, 158), 59);
        check.due("one", x.count(130, 130), 1);
        check.due("upper is below lower", x.count(131, 130), 0);
        check.due("upper is far below lower", x.count(MOST, LEAST), 0);
        check.due("below all", x.count(LEAST, 99), 0);
        check.due("above all", x.count(160, MOST), 0);
        PrivateCounts ends = rowsOf(LEAST, MOST, LEAST);
        check.due("the least int", ends.count(LEAST, LEAST), 2);
        check.due("the greatest int", ends.count(MOST, MOST), 1);
        check.due("between them", ends.count(LEAST + 1, MOST - 1), 0);
    }
}

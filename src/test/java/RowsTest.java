/** Promises 2 (add), 3 (remove) and 4 (count). */
public final class RowsTest {
    private static final int LEAST = Integer.MIN_VALUE;
    private static final int MOST = Integer.MAX_VALUE;
    private static final Check check = new Check();

    public static void main(String[] args) {
        addsUpToSixty();
        removesAndMovesUp();
        refusesRowsThatAreNot();
        countsBothEnds();
        check.end();
    }

    private static void addsUpToSixty() {
        PrivateCounts x = new PrivateCounts();
        for (int i = 0; i < 60; i++) {
            check.due("add", x.add(1000 - i), i);
            check.due("told(3)", x.told(3), i + 1);
        }
        check.due("add a 61st", x.add(5), PrivateCounts.NONE);
        check.due("told(3) of 60", x.told(3), 60);
        check.due("count all of 60", x.count(LEAST, MOST), 60);
        check.due("count the 61st", x.count(5, 5), 0);
        check.due("remove the last", x.remove(59), 941);
        check.due("add again", x.add(7), 59);
        check.due("add one more", x.add(7), PrivateCounts.NONE);
    }

    private static void removesAndMovesUp() {
        PrivateCounts x = new PrivateCounts();
        int[] values = {LEAST, -1, 0, MOST, 8};
        for (int i = 0; i < values.length; i++) {
            check.due("add", x.add(values[i]), i);
        }
        check.due("remove(1)", x.remove(1), -1);
        check.due("remove(1), the next", x.remove(1), 0);
        check.due("told(3)", x.told(3), 3);
        check.due("add", x.add(9), 3);
        check.due("remove(0)", x.remove(0), LEAST);
        check.due("remove(0)", x.remove(0), MOST);
        check.due("remove(1)", x.remove(1), 9);
        check.due("remove(0)", x.remove(0), 8);
        check.due("told(3) of none", x.told(3), 0);
    }

    private static void refusesRowsThatAreNot() {
        PrivateCounts x = new PrivateCounts();
        check.throwsIndexOutOfBounds("remove(0) of none", () -> x.remove(0));
        for (int i = 0; i < 60; i++) {
            x.add(i);
        }
        for (int row : new int[] {-1, 60, 61, LEAST, MOST}) {
            check.throwsIndexOutOfBounds("remove(" + row + ")", () -> x.remove(row));
        }
        check.due("told(3)", x.told(3), 60);
        check.due("remove(59)", x.remove(59), 59);
        check.throwsIndexOutOfBounds("remove(59) once more", () -> x.remove(59));
    }

    private static void countsBothEnds() {
        PrivateCounts x = new PrivateCounts();
        check.due("count of none", x.count(LEAST, MOST), 0);
        for (int v : new int[] {3, -3, 3, 5, LEAST, MOST}) {
            x.add(v);
        }
        check.due("count(3, 3)", x.count(3, 3), 2);
        check.due("count(3, 5)", x.count(3, 5), 3);
        check.due("count(4, 5)", x.count(4, 5), 1);
        check.due("count(3, 4)", x.count(3, 4), 2);
        check.due("count(5, 3)", x.count(5, 3), 0);
        check.due("count(-3, 3)", x.count(-3, 3), 3);
        check.due("count(LEAST, LEAST)", x.count(LEAST, LEAST), 1);
        check.due("count(MOST, MOST)", x.count(MOST, MOST), 1);
        check.due("count(LEAST, MOST)", x.count(LEAST, MOST), 6);
        check.due("count(MOST, LEAST)", x.count(MOST, LEAST), 0);
        x.remove(0);
        check.due("count(3, 3) after remove", x.count(3, 3), 1);
    }
}

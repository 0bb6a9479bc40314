/** The two constants, promise 1 (a new object), and its 512 calls. */
final class NewObjectEdges {
    private static final int MOST = Integer.MAX_VALUE;

    private final Check check;

    NewObjectEdges(Check check) {
        this.check = check;
    }

    // Each look at a limb is the 512th call of an object. Among 490 .. 1000 stands a multiple of each
    // number up to 1000: so the fractions get as long as they ever can be.
    void isRightAtTheLastCall() {
        Ratio granted = Ratio.ZERO;
        for (int den = 1000; den >= 490; den--) {
            granted = granted.plus(Ratio.of(MOST, den));
        }
        check.due("bits of the denominator", granted.denominator.bitLength(), 1438);
        for (int part = 0; part <= 1; part++) {
            for (int k = -1; k <= granted.limb(part, -1); k++) {
                int due = granted.limb(part, k);
                check.due("limb(0, " + part + ", " + k + ")", afterAllRaises().limb(0, part, k), due);
                check.due("limb(2, " + part + ", " + k + ")", afterAllRaises().limb(2, part, k), due);
            }
        }
    }

    private static PrivateCounts afterAllRaises() {
        PrivateCounts x = new PrivateCounts();
        for (int den = 1000; den >= 490; den--) {
            x.raise(MOST, den);
        }
        return x;
    }

    void noneIsMinusOne() {
        check.due("NONE", PrivateCounts.NONE, -1);
    }

    void refusedIsTheLeastInt() {
        check.due("REFUSED", PrivateCounts.REFUSED, Integer.MIN_VALUE);
    }

    void hasNoRows() {
        PrivateCounts x = new PrivateCounts();
        check.due("told(3)", x.told(3), 0);
        check.due("count of all ints", x.count(Integer.MIN_VALUE, MOST), 0);
        check.due("count of 0", x.count(0, 0), 0);
        check.throwsIndexOutOfBounds("remove(0)", () -> x.remove(0));
    }

    void hasOneAndTwo() {
        PrivateCounts x = new PrivateCounts();
        check.due("told(6)", x.told(6), 1);
        check.due("told(7)", x.told(7), 2);
        check.due("all()", x.all(), 3 * 1024);
        check.due("least(1000)", x.least(1000), 694);
    }

    void hasTheRangeFromZeroToTen() {
        PrivateCounts x = new PrivateCounts();
        check.due("told(4)", x.told(4), 0);
        check.due("told(5)", x.told(5), 10);
        check.due("weight(0, 10)", x.weight(0, 10), 2);
        check.due("weight(10, 10)", x.weight(10, 10), 2048);
        check.due("weight(11, 10)", x.weight(11, 10), 0);
        check.due("weight(-1, 0)", x.weight(-1, 0), 0);
        check.due("draw(10, 3071)", x.draw(10, 3071), 10);
        check.throwsIllegalArgument("draw(11, 0)", () -> x.draw(11, 0));
        check.throwsIllegalArgument("draw(-1, 0)", () -> x.draw(-1, 0));
    }

    // A second object has nothing of the first, and the first keeps what it has.
    void hasNothingOfAnother() {
        PrivateCounts x = new PrivateCounts();
        String fresh = State.of(x);
        x.add(1);
        x.table(3, 7, -4, 4);
        x.budget(7, 2);
        x.ask(0, 9, 1, 1, 0);
        String used = State.of(x);
        PrivateCounts y = new PrivateCounts();
        check.due("a second new object", State.of(y).equals(fresh), true);
        y.add(5);
        y.budget(1, 3);
        check.due("the first object", State.of(x).equals(used), true);
        check.due("it is another state", used.equals(fresh), false);
    }
}

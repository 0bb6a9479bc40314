import java.util.Random;
import java.util.function.LongSupplier;

/** All promises together: runs of 512 calls, drawn from fixed seeds, held against the model. */
public final class LongRunsTest {
    private static final int RUNS = 600;
    private static final int CALLS = 512;
    private static final Check check = new Check();

    private final Random random;
    private final int[] leans;
    private final PrivateCounts x = new PrivateCounts();
    private final Model model = new Model();

    private LongRunsTest(int seed) {
        random = new Random(seed);
        // Each run leans to some of the calls, so that some fill the rows and some spend for long.
        leans = new int[17];
        for (int i = 0; i < leans.length; i++) {
            leans[i] = 1 + (random.nextInt(3) == 0 ? random.nextInt(20) : 0);
        }
    }

    public static void main(String[] args) {
        for (int seed = 0; seed < RUNS; seed++) {
            LongRunsTest run = new LongRunsTest(seed);
            for (int call = 0; call < CALLS; call++) {
                run.makeOneCall("run " + seed + ", call " + call + ": ");
            }
        }
        check.end();
    }

    private void makeOneCall(String at) {
        switch (chosen()) {
            case 0 -> {
                int v = value();
                hold(at + "add " + v, () -> x.add(v), model.add(v));
            }
            case 1 -> {
                int row = between(-1, 61);
                hold(at + "remove " + row, () -> x.remove(row), model.remove(row));
            }
            case 2 -> {
                int lower = value();
                int upper = value();
                hold(at + "count " + lower + " " + upper, () -> x.count(lower, upper), model.count(lower, upper));
            }
            case 3 -> setTable(at);
            case 4 -> hold(at + "all", x::all, model.all());
            case 5 -> {
                int row = outcome();
                int z = outcome();
                hold(at + "weight " + row + " " + z, () -> x.weight(row, z), model.weight(row, z));
            }
            case 6 -> {
                int row = outcome();
                int z = outcome();
                hold(at + "upTo " + row + " " + z, () -> x.upTo(row, z), row < model.told(4) || row > model.told(5)
                    ? 0 : model.upTo(row, z));
            }
            case 7 -> {
                int row = outcome();
                long coin = coin();
                hold(at + "draw " + row + " " + coin, () -> x.draw(row, coin), model.draw(row, coin));
            }
            case 8 -> {
                int one = outcome();
                int other = outcome();
                hold(at + "isNear " + one + " " + other, () -> x.isNear(one, other) ? 1 : 0,
                    model.isNear(one, other));
            }
            case 9, 10 -> setBudget(at);
            case 11 -> {
                int p = between(-1, 3001);
                int q = denominator();
                hold(at + "isEnough " + p + " " + q, () -> x.isEnough(p, q) ? 1 : 0, model.isEnough(p, q));
            }
            case 12 -> {
                int q = denominator();
                hold(at + "least " + q, () -> x.least(q), model.least(q));
            }
            case 13, 14 -> ask(at);
            case 15 -> {
                int which = oneIn(30) ? value() : between(0, 2);
                int part = oneIn(30) ? value() : between(0, 1);
                int k = oneIn(30) ? value() : between(-1, (int) Math.max(0, model.limb(1, 1, -1)));
                hold(at + "limb " + which + " " + part + " " + k, () -> x.limb(which, part, k),
                    model.limb(which, part, k));
            }
            default -> {
                int what = between(-1, 8);
                hold(at + "told " + what, () -> x.told(what), model.told(what));
            }
        }
    }

    private void setTable(String at) {
        int a = oneIn(10) ? between(-1, 12) : between(1, 9);
        int b = oneIn(10) ? between(-1, 12) : between(a + 1, 10);
        int low = oneIn(10) ? between(-1001, 1001) : between(-20, 20);
        int high = oneIn(20) ? value() : low + between(0, oneIn(10) ? 16 : 14);
        hold(at + "table " + a + " " + b + " " + low + " " + high, () -> x.table(a, b, low, high),
            model.table(a, b, low, high));
    }

    private void setBudget(String at) {
        int den = denominator();
        int num = oneIn(20) ? between(-2, 2) : oneIn(8) ? random.nextInt() : between(0, 4 * Math.max(den, 1));
        // Seldom, or SPENT would never grow long.
        if (oneIn(40)) {
            hold(at + "budget " + num + " " + den, () -> {
                x.budget(num, den);
                return 0;
            }, model.budget(num, den));
        } else {
            hold(at + "raise " + num + " " + den, () -> {
                x.raise(num, den);
                return 0;
            }, model.raise(num, den));
        }
    }

    private void ask(String at) {
        int q = denominator();
        long least = model.least(q);
        int near = least == Model.ILLEGAL ? 1 : (int) least + between(-1, 3);
        int p = oneIn(10) ? between(-1, 3001) : near;
        int lower = value();
        int upper = value();
        long coin = coin();
        hold(at + "ask " + lower + " " + upper + " " + p + " " + q + " " + coin,
            () -> x.ask(lower, upper, p, q, coin), model.ask(lower, upper, p, q, coin));
    }

    private int chosen() {
        int all = 0;
        for (int lean : leans) {
            all += lean;
        }
        int left = random.nextInt(all);
        for (int i = 0; i < leans.length; i++) {
            left -= leans[i];
            if (left < 0) {
                return i;
            }
        }
        return 0;
    }

    private boolean oneIn(int n) {
        return random.nextInt(n) == 0;
    }

    private int between(int least, int most) {
        return most < least ? least : least + random.nextInt(most - least + 1);
    }

    private int value() {
        return switch (random.nextInt(12)) {
            case 0 -> Integer.MIN_VALUE;
            case 1 -> Integer.MAX_VALUE;
            case 2 -> random.nextInt();
            default -> between(-6, 12);
        };
    }

    private int outcome() {
        return oneIn(15) ? value() : between((int) model.told(4) - 1, (int) model.told(5) + 1);
    }

    private int denominator() {
        return oneIn(25) ? between(-1, 1002) : oneIn(3) ? between(1, 12) : between(1, 1000);
    }

    private long coin() {
        return switch (random.nextInt(12)) {
            case 0 -> random.nextLong();
            case 1 -> model.all() - random.nextInt(2);
            case 2 -> -random.nextInt(2);
            default -> Math.floorMod(random.nextLong(), model.all());
        };
    }

    private void hold(String call, LongSupplier code, long want) {
        if (want == Model.ILLEGAL) {
            check.throwsIllegalArgument(call, code::getAsLong);
        } else if (want == Model.OUT_OF_BOUNDS) {
            check.throwsIndexOutOfBounds(call, code::getAsLong);
        } else {
            check.due(call, code.getAsLong(), want);
        }
    }
}

import com.sun.management.ThreadMXBean;
import java.lang.management.ManagementFactory;

/** All calls of a run live in one room: no call that answers may make an object or an array. */
public final class RoomTest {
    private static final Check check = new Check();
    private static final ThreadMXBean threads = (ThreadMXBean) ManagementFactory.getThreadMXBean();

    public static void main(String[] args) {
        PrivateCounts x = new PrivateCounts();
        makeEachCall(x, 1);
        long before = threads.getCurrentThreadAllocatedBytes();
        long between = threads.getCurrentThreadAllocatedBytes();
        long sum = makeEachCall(x, 100);
        long after = threads.getCurrentThreadAllocatedBytes();
        check.due("the calls were made", sum != 0, true);
        // The measuring itself may take a little.
        check.due("bytes of 1900 calls beyond the measuring's",
            Math.max(0, after - between - (between - before) - 1000), 0);
        check.end();
    }

    private static long makeEachCall(PrivateCounts x, int times) {
        long sum = 0;
        for (int i = 0; i < times; i++) {
            sum += x.table(1 + i % 8, 10, -2 - i % 9, 3);
            x.budget(2000 + i, 997 - i);
            x.raise(17, 991 - i);
            x.raise(2147483647, 983 - i);
            sum += x.add(i % 5) + x.add(7) + x.remove(0);
            sum += x.count(0, 4) + x.all() + x.weight(0, 1) + x.upTo(1, 2) + x.draw(0, 100);
            sum += x.isNear(0, 1) ? 1 : 0;
            sum += x.isEnough(i, 10) ? 1 : 0;
            sum += x.least(1000 - i);
            sum += x.ask(0, 3, 3000, 977 - i, 5) + x.ask(0, 3, 1, 500, 5);
            sum += x.limb(2, 0, 1) + x.told(3);
        }
        return sum;
    }
}

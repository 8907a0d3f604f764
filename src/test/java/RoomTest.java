import com.sun.management.ThreadMXBean;
import java.lang.management.ManagementFactory;

/** The room: an object makes its rows once, and calls make nothing more. */
final class RoomTest {
    private static final ThreadMXBean THREADS = (ThreadMXBean) ManagementFactory.getThreadMXBean();

    public static void main(String[] args) {
        Check check = new Check();
        DiamondRows x = new DiamondRows();
        for (int n = 4; n <= 9; n++) {
            x.kinds(n, false);
        }
        everyCall(x);
        long before = here();
        for (int round = 0; round < 100; round++) {
            everyCall(x);
        }
        long calls = here() - before;
        check.holds("4,000 calls make nothing, not " + calls + " bytes", calls < 4000);
        before = here();
        for (int round = 0; round < 100; round++) {
            x = new DiamondRows();
            x.take(9, round);
        }
        // Some 4,500 elements of four bytes at most: 1,600 such objects have room.
        long made = (here() - before) / 100;
        check.holds("an object takes " + made + " bytes", made < 24000);
        check.finish();
    }

    private static long here() {
        return THREADS.getThreadAllocatedBytes(Thread.currentThread().getId());
    }

    private static void put(DiamondRows x, int a, int b, int c, int d, int e) {
        x.end(0);
        x.feed(a, b, c, d, e);
    }

    private static void everyCall(DiamondRows x) {
        put(x, 0x636f726e, 0x65727320, 0x353b3020, 0x323b3020, 0x333b2020);
        x.cut();
        x.fault(0);
        x.take(9, 77);
        x.told(1);
        x.triangle(3, 1);
        x.entry(2, 7);
        x.row(4);
        x.way(1, 7, 0, 4);
        x.flip(0, 2);
        x.fewest(400);
        x.passed(1);
        x.farthest(1);
        x.least(true);
        x.kinds(9, true);
        put(x, 0x31203220, 0x33203420, 0x35203620, 0x37203820, 0x39202020);
        x.read();
        put(x, 0x31203220, 0x33203420, 0x35203620, 0x37203820, 0x39202020);
        x.mend();
        x.mended();
        x.crossed(0, 4, -1);
        x.side(0, 4, 0);
        x.greatest(9, 1);
        x.spread(0, 4, 3);
        put(x, 0x31203220, 0x33203420, 0x35203620, 0x37203820, 0x39202020);
        x.period();
        x.ofCut();
        x.of(0);
        x.along(0, 12);
        x.breaks(2);
        x.growth();
        x.glue(0);
        x.cutOff(1);
        x.core();
        x.see(0, 0, 2, 1);
        x.right(1, 0, 2);
        x.fit(0, 0);
        x.surely(0, 2, 0);
        x.ask(0);
        x.count(0);
    }
}

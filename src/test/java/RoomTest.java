import java.lang.management.ManagementFactory;

/** 512 calls, the dearest ones among them, must make little. */
public final class RoomTest {
    private static final Due due = new Due("RoomTest");
    private static final long ROOM = 512L * 1024;

    public static void main(String[] args) {
        com.sun.management.ThreadMXBean threads =
            (com.sun.management.ThreadMXBean) ManagementFactory.getThreadMXBean();
        long self = Thread.currentThread().getId();
        for (int kind = 0; kind < 5; kind++) {
            run(kind);
            long before = threads.getThreadAllocatedBytes(self);
            run(kind);
            long made = threads.getThreadAllocatedBytes(self) - before;
            due.holds("run " + kind + " makes " + made + " bytes", made < ROOM);
        }
        due.close();
    }

    private static void run(int kind) {
        BetMaker m = new BetMaker();
        m.begin(8, 1000);
        m.trader(2, 1000000000000L);
        m.sheet(0, 0, 24);
        for (int i = 0; i < 8; i++) {
            m.put(0, i, i + 1);
        }
        for (int f = 0; f < 6; f++) {
            m.offer(1 << f, 1, 3);
        }
        for (int k = 0; k < 490; k++) {
            call(m, kind, k);
        }
    }

    private static void call(BetMaker m, int kind, int k) {
        switch (kind) {
            case 0 -> m.best(0, 1 + k % 254);
            case 1 -> {
                if (k % 2 == 0) {
                    m.bundle(k % 6);
                } else {
                    m.most(k % 6, k % 4);
                }
            }
            case 2 -> m.forecast(0, 0, 0, k % 8);
            case 3 -> m.sheet(k % 4, k % 3, 24);
            default -> {
                if (k % 8 == 0) {
                    m.begin(8, 1000);
                } else {
                    m.trader(k % 3, k);
                }
            }
        }
    }
}

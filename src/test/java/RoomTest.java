import java.lang.management.ManagementFactory;

/** All calls of a run share one small room, so calls after the constructor make no objects. */
public final class RoomTest {
    private static final int CALLS = 512;
    private static final int CALLS_A_ROUND = 11;
    // Three rows, three rows of tokens and the blocks' sums, an int taking 4 bytes and a long 8, with some spare.
    private static final long BYTES_OF_AN_OBJECT = 40_000;
    private static final long BYTES_OF_ALL_CALLS = 10_000;

    public static void main(String[] args) {
        Checks checks = new Checks();
        makeAndUse();
        long before = allocated();
        DeltaDesk x = new DeltaDesk();
        long made = allocated();
        use(x);
        long used = allocated();
        checks.holds("a new object takes " + (made - before) + " bytes, few", made - before < BYTES_OF_AN_OBJECT);
        checks.holds("its calls take " + (used - made) + " bytes, few", used - made < BYTES_OF_ALL_CALLS);
        checks.end();
    }

    /** Loads the classes first, which takes bytes of its own. */
    private static void makeAndUse() {
        allocated();
        use(new DeltaDesk());
    }

    private static void use(DeltaDesk x) {
        x.size(0, 1199);
        x.size(1, 1200);
        for (int call = 2; call + CALLS_A_ROUND <= CALLS; call += CALLS_A_ROUND) {
            x.put(0, call, call * 0x0102030405060708L);
            x.move(0, call, 1, 2 * call % 1000, 100);
            x.delta(4, 64);
            x.find(4, 64, call / 4, 0);
            x.weak(0, 0, 1199);
            x.strong(1, 0, 1200);
            x.token(0, 1);
            x.sent();
            x.same();
            x.patch();
            x.size(0, 1199);
        }
    }

    private static long allocated() {
        com.sun.management.ThreadMXBean bean =
                (com.sun.management.ThreadMXBean) ManagementFactory.getThreadMXBean();
        return bean.getThreadAllocatedBytes(Thread.currentThread().getId());
    }
}

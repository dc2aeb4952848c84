import java.lang.management.ManagementFactory;

/** All calls of one run live in one room: only a constructor and boy() make objects, and few. */
public final class RoomTest {
    private static final com.sun.management.ThreadMXBean THREADS =
        (com.sun.management.ThreadMXBean) ManagementFactory.getThreadMXBean();

    public static void main(String[] args) {
        OverFence warm = new OverFence();
        calls(warm);
        long before = made();
        OverFence x = new OverFence();
        Check.holds("a new object is below 16 KiB", made() - before < 16 * 1024);
        x.boy(4, 1);
        x.boy(6, 9);
        before = made();
        calls(x);
        long bytes = made() - before;
        Check.holds("calls make next to nothing: " + bytes, bytes < 16 * 1024);
        Check.end();
    }

    private static long made() {
        return THREADS.getThreadAllocatedBytes(Thread.currentThread().getId());
    }

    /** Some thousands of calls, the dearest ones too. */
    private static void calls(OverFence x) {
        for (int i = 0; i < 200; i++) {
            x.set(3, 9);
            x.kick(i % 2, i % 10);
            x.feed('w');
            x.yard();
            x.odds(0, 1, 0);
            x.turn(0);
            x.need(0);
            x.bar(0);
            x.round(12, 0, 0);
            x.rule(12);
            x.who(0);
            x.cover(0);
            x.tale(0, i % 10, 0);
            x.looked();
            x.act(0, 2, i);
            x.image();
            x.undo();
            x.night();
        }
    }
}

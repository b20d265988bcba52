import com.sun.management.ThreadMXBean;
import java.lang.management.ManagementFactory;

/** All memory is rows made once: an object is small, and its calls make nothing. */
public final class RoomTest {
    private static final Due due = new Due("room");
    /** What the measuring itself may take. */
    private static final long SLACK = 2000;
    private static final ThreadMXBean THREADS = (ThreadMXBean) ManagementFactory.getThreadMXBean();

    public static void main(String[] args) {
        if (!THREADS.isThreadAllocatedMemorySupported()) {
            System.out.println("room: this machine does not count what a thread makes");
            return;
        }
        use(Made.withKeys());
        PinModule x = Made.withKeys();
        long before = made();
        use(x);
        long byCalls = made() - before;
        due.holds("calls make nothing: " + byCalls + " bytes", byCalls < SLACK);
        before = made();
        for (int i = 0; i < 100; i++) {
            new PinModule();
        }
        long byObject = (made() - before) / 100;
        due.holds("an object is small: " + byObject + " bytes", byObject < 4000);
        due.end();
    }

    private static long made() {
        return THREADS.getThreadAllocatedBytes(Thread.currentThread().getId());
    }

    private static void use(PinModule x) {
        x.terminal(0, 2, 5);
        for (int i = 0; i < 20; i++) {
            x.wrap(i % 8);
            x.unwrap(8);
            x.usage(8);
            x.clear(8);
            x.load(9, 0, true);
            x.clear(9);
            x.next(0);
            x.skip(0, 1 << i);
            x.check(16);
            x.pin(16, 4, 0, 0x1234, 0);
            x.translate(16, 4, 3, 0, -1);
            x.verify(4, 51, 0, 0x1234);
            x.message(0, i);
            x.code(1, i);
            x.poke(1, i);
            x.peek(1);
            x.pin(-1, 0, 0, 0, 0);
        }
    }
}

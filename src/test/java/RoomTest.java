import com.sun.management.ThreadMXBean;
import java.lang.management.ManagementFactory;

/** What the document says of an object's memory and of how long it is used. */
public final class RoomTest {
    private static final Due due = new Due("room");
    /** What the measuring itself may take. */
    private static final long SLACK = 2000;
    private static final ThreadMXBean THREADS = (ThreadMXBean) ManagementFactory.getThreadMXBean();

    public static void main(String[] args) {
        if (THREADS.isThreadAllocatedMemorySupported()) {
            due.sentence("Terms: All memory is rows made once (calls make nothing)", RoomTest::callsMakeNothing);
            due.sentence("Terms: All memory is rows made once (an object is small)", RoomTest::objectIsSmall);
        } else {
            System.out.println("room: this machine does not count what a thread makes");
        }
        due.sentence("What it is: An object is used for at most 512 calls", RoomTest::lastCalls);
        due.end();
    }

    /** The first use is not measured: the Java machine makes things of its own for it. */
    private static void callsMakeNothing() {
        use(Made.withKeys());
        PinModule x = Made.withKeys();
        long before = made();
        use(x);
        long byCalls = made() - before;
        due.holds("calls make nothing: " + byCalls + " bytes", byCalls < SLACK);
    }

    private static void objectIsSmall() {
        long before = made();
        for (int i = 0; i < 100; i++) {
            new PinModule();
        }
        long byObject = (made() - before) / 100;
        due.holds("an object is small: " + byObject + " bytes", byObject < 4000);
    }

    /** The 11 calls that make the terminal are among the 512. */
    private static void lastCalls() {
        PinModule x = Made.sealedModule();
        Made.load(x, 0, 2, true, 1, 2);
        x.terminal(0, 0, 3);
        for (int call = 12; call <= 512; call++) {
            due.is("call " + call + ", next(0)", x.next(0), call - 11);
        }
    }

    private static long made() {
        return THREADS.getThreadAllocatedBytes(Thread.currentThread().getId());
    }

    private static void use(PinModule x) {
        x.terminal(0, 2, 5);
        for (int i = 0; i < 20; i++) {
            x.wrap(i % 8);
            x.unwrap(8);
            x.usage(8);
            x.clear(8);
            x.load(9, 0, true);
            x.clear(9);
            x.next(0);
            x.skip(0, 1 << i);
            x.check(16);
            x.pin(16, 4, 0, 0x1234, 0);
            x.translate(16, 4, 3, 0, -1);
            x.verify(4, 51, 0, 0x1234);
            x.message(0, i);
            x.code(1, i);
            x.poke(1, i);
            x.peek(1);
            x.pin(-1, 0, 0, 0, 0);
        }
    }
}

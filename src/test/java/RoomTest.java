import com.sun.management.ThreadMXBean;
import java.lang.management.ManagementFactory;

/** All calls of one run live in one room: what 512 of the dearest calls make stays far below what it holds. */
public final class RoomTest {
    private static final int CALLS = 512;
    /** The room holds 7.3 million fields and elements, each of a byte or more: a twentieth of it is enough for a run. */
    private static final long MOST_BYTES = 365000;

    public static void main(String[] args) {
        ThreadMXBean threads = (ThreadMXBean) ManagementFactory.getThreadMXBean();
        if (!threads.isThreadAllocatedMemorySupported()) {
            Due.same("this machine cannot tell what is made", 0, 0);
            Due.close();
            return;
        }
        // The first run also loads the classes, which is not of the object's making.
        run();
        long before = threads.getCurrentThreadAllocatedBytes();
        int done = run();
        long made = threads.getCurrentThreadAllocatedBytes() - before;
        Due.same("calls done", done, CALLS);
        Due.yes("512 calls make " + made + " bytes", made <= MOST_BYTES);
        Due.close();
    }

    /** All WAGONS that can come, then each call that makes something or searches, again and again. */
    private static int run() {
        TrainFerry x = new TrainFerry();
        x.ship(200, 2000, 50, 1000);
        x.tide(0, 0, 50);
        for (int i = 0; i < 100; i++) {
            x.wagon(i % 2, i / 2 % 3, 6 + i % 5, 10 + i % 81, i % 4 == 0 ? 0 : 3);
        }
        int calls = 102;
        for (int i = 0; calls < CALLS; i++, calls++) {
            switch (i % 5) {
                case 0:
                    x.loading(2, 2, 2);
                    break;
                case 1:
                    x.on(i % 3, i % 4);
                    break;
                case 2:
                    x.emptying();
                    break;
                case 3:
                    x.feed(0x66726565, 0x20202020, 0x20202020, 0x20202020, 0x20202020);
                    break;
                default:
                    x.agree(5000);
                    break;
            }
        }
        return calls;
    }
}

import com.sun.management.ThreadMXBean;
import java.lang.management.ManagementFactory;

/** The dearest run of 512 calls takes little of the room that all calls of a run share. */
public final class RoomTests {
    // 7.3 million elements of at least a byte each are there; a dear run is to take a small part of them.
    private static final long MOST_BYTES = 200000;

    private final RubbedWelds x = new RubbedWelds();
    private int calls;

    private void dearRun() {
        for (int i = 0; i < 6; i++) {
            x.stuff(20 + i, 5, 20 * i, 150, 10, 200, 20, 50);
        }
        for (int i = 0; i < 20; i++) {
            x.job(i % 6, i / 6, 6);
        }
        for (int i = 0; i < 10; i++) {
            x.window(i, i % 4 * 91, (i % 4 + 5) * 91);
        }
        calls = 36;
        for (int i = 0; calls < 480; i++) {
            askAll(i);
        }
    }

    private void askAll(int i) {
        x.proof(i % 10, -1);
        x.copy(i % 10);
        x.check(i % 10);
        x.greatest(i % 10, 2);
        x.edge(i % 10, 400);
        x.good(i % 10);
        x.joint(i % 20, i);
        x.attempt(i, true);
        x.odd(0);
        x.led(0);
        x.work(i % 20, i);
        x.order(-1);
        x.mended(i % 20, i);
        x.stuff(0, 0, 0, 0, 0, 0, 0, 0);
        calls += 14;
    }

    private static long taken() {
        ThreadMXBean bean = (ThreadMXBean) ManagementFactory.getThreadMXBean();
        long before = bean.getCurrentThreadAllocatedBytes();
        new RoomTests().dearRun();
        return bean.getCurrentThreadAllocatedBytes() - before;
    }

    public static void main(String[] args) {
        taken();
        long bytes = taken();
        System.out.println("a dear run takes " + bytes + " bytes");
        Checker c = new Checker();
        c.due("a dear run takes at most " + MOST_BYTES + " bytes", true, bytes <= MOST_BYTES);
        c.close();
    }
}

import com.sun.management.ThreadMXBean;
import java.lang.management.ManagementFactory;

/** The dearest calls make no objects, and end soon. */
public final class RoomTest {
    public static void main(String[] args) {
        ThreadMXBean threads = (ThreadMXBean) ManagementFactory.getThreadMXBean();
        long id = Thread.currentThread().getId();
        calls(dense());
        long before = threads.getThreadAllocatedBytes(id);
        WildBells x = dense();
        long made = threads.getThreadAllocatedBytes(id) - before;
        Checks.holds("an object takes at most 20000 bytes: " + made, made < 20000);
        before = threads.getThreadAllocatedBytes(id);
        calls(x);
        long more = threads.getThreadAllocatedBytes(id) - before;
        Checks.holds("calls make nothing: " + more, more < 20000);
        Checks.end();
    }

    private static WildBells dense() {
        WildBells x = new WildBells();
        for (int c = 0; c < 64; c++) {
            x.thick(c, c * 7 % 10);
        }
        for (int b = 0; b < 8; b++) {
            x.bell(b % 7, b * 9 % 64);
        }
        for (int h = 0; h < 4; h++) {
            x.hunter(h, 20 + h);
        }
        x.sheet(0, 8, 0);
        return x;
    }

    private static void calls(WildBells x) {
        for (int i = 0; i < 30; i++) {
            x.netFor(i % 8);
            x.best(20);
            x.drive(i % 4, i % 8);
            x.kindFor(i % 8);
            x.still();
            x.ear(0, 50);
            x.lasts(5000, 99);
            x.peals();
            x.wanted();
            x.feed('b' << 24 | 'e' << 16 | 'l' << 8 | 'l', 4);
            x.text();
            x.image();
            x.undo();
            x.thunder(1);
            x.go(1);
        }
    }
}

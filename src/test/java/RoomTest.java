import com.sun.management.ThreadMXBean;
import java.lang.management.ManagementFactory;

/** LANGUAGE.md's room: a new object is small, and its dearest calls make nothing at all. */
public final class RoomTest {
    private static final ThreadMXBean ROOM = (ThreadMXBean) ManagementFactory.getThreadMXBean();

    public static void main(String[] args) {
        calls(busy());
        long before = made();
        ScrewLeft x = new ScrewLeft();
        long object = made() - before;
        Due.holds("a new object: " + object + " bytes", object > 0 && object < 20000);
        x = busy();
        before = made();
        calls(x);
        long bytes = made() - before;
        Due.holds("480 calls: " + bytes + " bytes", bytes < 20000);
        Due.end();
    }

    private static long made() {
        return ROOM.getThreadAllocatedBytes(Thread.currentThread().getId());
    }

    private static ScrewLeft busy() {
        ScrewLeft x = new ScrewLeft();
        for (int i = 0; i < 8; i++) {
            x.step(0, 0, 0);
        }
        x.sheet(0, 8, 4);
        for (int i = 0; i < 4; i++) {
            x.put(0, i, 1);
        }
        return x;
    }

    private static void calls(ScrewLeft x) {
        for (int i = 0; i < 60; i++) {
            x.orders(0, 0);
            x.whose(0, 0);
            x.all(0);
            x.loose(40);
            x.order(-1);
            x.image();
            x.feed(0x3031, 2);
            x.text(0);
        }
    }
}

import com.sun.management.ThreadMXBean;
import java.lang.management.ManagementFactory;

/** All calls of one run live in one room: none but the constructor may make anything that counts. */
public final class RoomTest {
    private static final ThreadMXBean THREADS = (ThreadMXBean) ManagementFactory.getThreadMXBean();

    public static void main(String[] args) {
        for (int i = 0; i < 3; i++) {
            run();
        }
        long made = run();
        Check.due("bytes that a run of 512 calls makes, " + made + ", are some 16 bytes a call at most", true,
            () -> made < 8192);
        long ahead = bytes();
        AsideStore store = new AsideStore();
        long object = bytes() - ahead;
        Check.due("an object has " + object + " bytes", true, () -> store.count(0) == 100 && object < 150000);
        Check.end();
    }

    private static long bytes() {
        return THREADS.getThreadAllocatedBytes(Thread.currentThread().getId());
    }

    private static long run() {
        AsideStore store = new AsideStore();
        store.store(50, 0, 4, 2);
        for (int key = 0; key < 10; key++) {
            store.put(key, 40, key);
        }
        long sum = 0;
        long ahead = bytes();
        for (int i = 0; i < 64; i++) {
            sum += store.sweep(6, 2);
            sum += store.would(3, 2);
            sum += store.count(21);
            sum += store.old(9);
            sum += store.flush();
            store.feed(0x73796e63, 0x3b666c75, 0x73683b20, 0x63726173, 0x683b6d65);
            store.end(17);
            sum += store.acts();
        }
        long made = bytes() - ahead;
        return sum > 0 ? made : Long.MAX_VALUE;
    }
}

import com.sun.management.ThreadMXBean;
import java.lang.management.ManagementFactory;

/** All calls of a run share one room: an object makes its rows once, and its calls make nothing more. */
public final class RoomTest {
    private static final ThreadMXBean THREADS = (ThreadMXBean) ManagementFactory.getThreadMXBean();
    /** The room has some 7.3 million elements; an object with 512 calls keeps far below it. */
    private static final long MOST_FOR_AN_OBJECT = 1_000_000;
    private static final long MOST_FOR_THE_CALLS = 100_000;

    public static void main(String[] args) {
        // What the machine makes for itself at first use is not the object's.
        useAll(new ModuleSigner(), 40);
        long start = made();
        ModuleSigner x = new ModuleSigner();
        long object = made() - start;
        start = made();
        useAll(x, 500);
        long calls = made() - start;
        Check.isTrue("an object makes " + object + " bytes", object < MOST_FOR_AN_OBJECT);
        Check.isTrue("its calls make " + calls + " bytes", calls < MOST_FOR_THE_CALLS);
        Check.finish("RoomTest");
    }

    private static long made() {
        return THREADS.getThreadAllocatedBytes(Thread.currentThread().getId());
    }

    private static void useAll(ModuleSigner x, int calls) {
        x.resize(0, 32);
        for (int i = 1; i < calls; i += 10) {
            int set = i / 10 % 3;
            x.dsaKeys(set);
            x.dsaSign(set, 0);
            x.dsaVerify(set, 0);
            x.feed(i, i, i, i, i);
            x.end(3, 20);
            x.copy(3, 7);
            x.alter(7, 0, 1);
            x.resize(7, 8192);
            x.word(7, 0);
            x.same(7, 3);
        }
    }
}

import java.lang.management.ManagementFactory;

/** What a new object, and the dearest 512 calls on it, take of memory: a run has one room for all of it. */
public final class RoomTest {
    private static final Check CHECK = new Check("RoomTest");
    private static final com.sun.management.ThreadMXBean MEMORY =
        (com.sun.management.ThreadMXBean) ManagementFactory.getThreadMXBean();

    public static void main(String[] args) {
        small();
        dearest();
        restores();
        long before = taken();
        for (int i = 0; i < 100; i++) {
            new PageStore();
        }
        within("a new object", (taken() - before) / 100, 4_000);
        before = taken();
        small();
        within("a small run", taken() - before, 20_000);
        before = taken();
        dearest();
        // Twice the limits of places (kind and number) and bytes, four bytes an element, and a little more.
        within("the dearest run", taken() - before, 2 * (2 * 32768 + 65536) * 4 + 50_000);
        before = taken();
        restores();
        within("saves and restores", taken() - before, 10_000);
        CHECK.end();
    }

    private static long taken() {
        return MEMORY.getThreadAllocatedBytes(Thread.currentThread().getId());
    }

    private static void within(String what, long bytes, long most) {
        CHECK.holds(what + " takes " + bytes + " bytes, at most " + most, bytes <= most);
    }

    private static void small() {
        PageStore x = new PageStore();
        x.values(32768);
        x.bytes(65536);
        x.dictionary();
        x.save();
        for (int i = 0; i < 40; i++) {
            x.set(1, i, 1, i);
            x.setByte(2, i, i);
            x.define(1, 1, i, 1, i);
            x.part(1, 0, i);
        }
    }

    /** The dearest way to grow: just short of the limit and of its halves, and to the limit at last. */
    private static void dearest() {
        PageStore x = new PageStore();
        x.values(32768);
        x.bytes(65536);
        x.dictionary();
        x.save();
        for (int size = 64; size <= 32768; size *= 2) {
            x.set(1, size - 2, 1, size);
            x.setByte(2, size - 2, size);
        }
        x.setByte(2, 65534, 1);
        x.set(1, 32767, 1, 1);
        x.setByte(2, 65535, 1);
        for (int i = 0; i < 240; i++) {
            x.define(1, 1, i, 1, i);
            x.part(1, 0, i);
        }
    }

    private static void restores() {
        PageStore x = new PageStore();
        for (int i = 0; i < 128; i++) {
            x.save();
            x.values(32768);
            x.bytes(65536);
            x.restore(1);
        }
    }
}

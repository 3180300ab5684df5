import java.lang.management.ManagementFactory;

/** What a new object, and the dearest 512 calls on it, take of memory: a run has one room for all of it. */
public final class RoomTest {
    private static final Check CHECK = new Check("RoomTest");
    private static final com.sun.management.ThreadMXBean MEMORY =
        (com.sun.management.ThreadMXBean) ManagementFactory.getThreadMXBean();

    public static void main(String[] args) {
        small();
        dearest();
        restores();
        long before = taken();
        for (int i = 0; i < 100; i++) {
            new PageStore();
        }
        within("a new object", (taken() - before) / 100, 4_000);
        before = taken();
        small();
        within("a small run", taken() - before, 20_000);
        before = taken();
        dearest();
        within("the dearest run", taken() - before, 1_500_000);
        before = taken();
        restores();
        within("saves and restores", taken() - before, 10_000);
        CHECK.end();
    }

    private static long taken() {
        return MEMORY.getThreadAllocatedBytes(Thread.currentThread().getId());
    }

    private static void within(String what, long bytes, long most) {
        CHECK.holds(what + " takes " + bytes + " bytes, at most " + most, bytes <= most);
    }

    private static void small() {
        PageStore x = new PageStore();
        x.values(32768);
        x.bytes(65536);
        x.dictionary();
        x.save();
        for (int i = 0; i < 40; i++) {
            x.set(1, i, 1, i);
            x.setByte(2, i, i);
            x.define(1, 1, i, 1, i);
            x.part(1, 0, i);
        }
    }

    /** Places and bytes far apart make each column grow as often as it can. */
    private static void dearest() {
        PageStore x = new PageStore();
        x.values(32768);
        x.bytes(65536);
        x.dictionary();
        x.save();
        for (int i = 0; i < 120; i++) {
            x.set(1, Math.min(32767, 1 << Math.min(i, 15)), 1, i);
            x.setByte(2, Math.min(65535, 1 << Math.min(i, 16)), i);
            x.define(1, 1, i, 1, i);
            x.part(1, 0, i);
        }
    }

    private static void restores() {
        PageStore x = new PageStore();
        for (int i = 0; i < 128; i++) {
            x.save();
            x.values(32768);
            x.bytes(65536);
            x.restore(1);
        }
    }
}

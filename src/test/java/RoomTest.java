import java.lang.management.ManagementFactory;

/** All calls of a run live in one room: the dearest 512 calls must leave most of it empty. */
public final class RoomTest {
    private static final int CALLS = 512;
    /** A tenth of the 7.3 million elements that the room has, of 4 bytes each. */
    private static final long BYTES_MOST = 2_900_000;
    private static final com.sun.management.ThreadMXBean THREADS =
            (com.sun.management.ThreadMXBean) ManagementFactory.getThreadMXBean();

    public static void main(String[] args) {
        // Once before, so that what the machine makes for itself at first does not count.
        long sum = work(new TwoSlots());
        long before = THREADS.getCurrentThreadAllocatedBytes();
        TwoSlots x = new TwoSlots();
        sum += work(x);
        long made = THREADS.getCurrentThreadAllocatedBytes() - before;
        Due.due("room for an object and its calls, " + made + " bytes", made < BYTES_MOST, true);
        Due.due("the work was done", sum != 0, true);
        Due.end();
    }

    /** The longest versions, much alike, so that looking for matches takes the most. */
    private static long work(TwoSlots x) {
        long sum = 0;
        int calls = 0;
        for (int i = 0; i < 40; i++) {
            sum += x.feed(i % 7);
        }
        sum += x.publish();
        for (int version = 2; version <= 6; version++) {
            sum += x.reuse(1, version, 40 - version) + x.feed(version) + x.publish();
        }
        calls += 41 + 5 * 3;
        for (int round = 0; calls + 27 <= CALLS; round++) {
            sum += useAll(x, 1 + round % 6, round % 7);
            calls += 27;
        }
        return sum;
    }

    private static long useAll(TwoSlots x, int version, int old) {
        long sum = x.patch(version, old) + x.patchByte(version, old, 1) + x.saved(version, old);
        sum += x.offer(version) + x.block(0, 1);
        for (int i = 0; i < 9; i++) {
            sum += x.block(i, 0);
        }
        sum += x.install(1) + x.boot() + x.install(20) + x.boot() + x.confirm() + x.boot();
        sum += x.state(0) + x.slot(1, 0) + (x.sound(1) ? 1 : 0) + x.damage(0, 50, 0);
        return sum + x.reuse(1, 3, 1) + x.feed(256) + x.publish();
    }
}

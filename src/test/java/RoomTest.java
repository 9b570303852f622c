import java.lang.management.ManagementFactory;

/** All calls of a run live in one room: only the constructor makes objects, and few of them. */
public final class RoomTest {
    private static final com.sun.management.ThreadMXBean THREADS =
            (com.sun.management.ThreadMXBean) ManagementFactory.getThreadMXBean();

    public static void main(String[] args) {
        long sum = work(new TwoSlots());
        TwoSlots x = new TwoSlots();
        long before = THREADS.getCurrentThreadAllocatedBytes();
        long between = THREADS.getCurrentThreadAllocatedBytes();
        sum += work(x);
        long after = THREADS.getCurrentThreadAllocatedBytes();
        long asking = between - before;
        long made = after - between - asking;
        // The machine itself may make a little; one object a call would be some ten thousand bytes.
        Due.due("calls make nothing, but made " + made, made < 1000, true);
        before = THREADS.getCurrentThreadAllocatedBytes();
        TwoSlots y = new TwoSlots();
        after = THREADS.getCurrentThreadAllocatedBytes();
        Due.due("a new object is small", after - before < 5000, true);
        Due.due("the work was done", sum != 0 && y.state(0) == 0, true);
        Due.end();
    }

    /** Every method, the dearest patches among them. */
    private static long work(TwoSlots x) {
        long sum = 0;
        for (int version = 0; version < 6; version++) {
            for (int i = 0; i < 40; i++) {
                sum += x.feed((i * (version + 1)) % 7);
            }
            sum += x.publish();
        }
        for (int round = 0; round < 20; round++) {
            sum += x.reuse(1 + round % 6, 3, 1);
            for (int old = 0; old <= 6; old++) {
                sum += x.patch(1 + round % 6, old) + x.saved(1 + round % 6, old);
                sum += x.patchByte(1 + round % 6, old, 1);
            }
            sum += work(x, 1 + round % 6);
        }
        return sum;
    }

    private static long work(TwoSlots x, int version) {
        int blocks = x.offer(version);
        long sum = x.block(0, 1);
        for (int i = 0; i < blocks; i++) {
            sum += x.block(i, 0);
        }
        sum += x.install(1) + x.boot() + x.install(20) + x.boot() + x.confirm();
        for (int i = -1; i < 12; i++) {
            sum += x.state(i) + x.slot(1, i) + (x.sound(i) ? 1 : 0);
        }
        return sum + x.damage(0, 50, 0) + x.boot();
    }
}

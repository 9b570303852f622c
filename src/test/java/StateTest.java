/** Promise 15: state, every number in every state of the device. */
public final class StateTest {
    public static void main(String[] args) {
        throughAnUpdate();
        refusals();
        Due.end();
    }

    private static void throughAnUpdate() {
        TwoSlots x = Due.with(Due.count(1, 12), Due.count(50, 40));
        x.feed(3);
        x.feed(4);
        Due.stateIs(x, "IDLE", 0, 0, 0, 0, 0, 0, 0, 0, 0, 2, 2);
        x.offer(1);
        x.block(2, 0);
        Due.stateIs(x, "FETCHING", 1, 0, 0, 0, 0, 0, 0, 1, 1, 2, 2);
        x.block(0, 0);
        x.block(1, 0);
        Due.stateIs(x, "INSTALLING", 2, 0, 0, 0, 1, 0, 0, 1, 3, 2, 2);
        x.install(1);
        Due.stateIs(x, "READY", 3, 0, 0, 0, 1, 0, 12, 1, 3, 2, 2);
        x.boot();
        Due.stateIs(x, "TRYING", 4, 1, 2, 0, 1, 0, 12, 0, 0, 2, 2);
        x.boot();
        Due.stateIs(x, "TRYING", 4, 1, 1, 0, 1, 0, 12, 0, 0, 2, 2);
        x.confirm();
        Due.stateIs(x, "kept", 0, 1, 0, 0, 1, 0, 12, 0, 0, 2, 2);
        Due.fetch(x, 2);
        x.install(1);
        Due.stateIs(x, "INSTALLING 2", 2, 1, 0, 2, 1, 31, 12, 2, 9, 2, 2);
        x.install(1);
        Due.stateIs(x, "READY 2", 3, 1, 0, 2, 1, 40, 12, 2, 9, 2, 2);
        x.publish();
        Due.stateIs(x, "published", 3, 1, 0, 2, 1, 40, 12, 2, 9, 3, 0);
    }

    private static void refusals() {
        TwoSlots x = new TwoSlots();
        int[] bad = {-1, 11, 12, Integer.MIN_VALUE, Integer.MAX_VALUE};
        for (int what : bad) {
            Due.due("state(" + what + ")", x.state(what), TwoSlots.REFUSED);
        }
    }
}

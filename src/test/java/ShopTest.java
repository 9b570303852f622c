/** Promises 1 to 4: a new object, feed, reuse, publish. */
public final class ShopTest {
    public static void main(String[] args) {
        newObject();
        objectsStandAlone();
        feedTakesBytes();
        feedRefusesOthers();
        feedIsFull();
        reuseTakesRows();
        reuseRefuses();
        reuseIsFull();
        publishNumbers();
        publishRefusesAndIsFull();
        Due.end();
    }

    private static void newObject() {
        TwoSlots x = new TwoSlots();
        Due.stateIs(x, "new", 0, 0, 0, 0, 0, 0, 0, 0, 0, 0, 0, TwoSlots.REFUSED);
        Due.due("new sound(0)", x.sound(0), true);
        Due.due("new sound(1)", x.sound(1), true);
        Due.slotIs(x, 0);
        Due.slotIs(x, 1);
        Due.due("new patch(0, 0)", x.patch(0, 0), TwoSlots.REFUSED);
        Due.due("new patch(1, 0)", x.patch(1, 0), TwoSlots.REFUSED);
        Due.due("new offer(1)", x.offer(1), TwoSlots.REFUSED);
        Due.due("new boot()", x.boot(), 0);
        Due.stateIs(x, "new, booted", 0, 0, 0, 0, 0, 0, 0, 0, 0, 0, 0);
    }

    private static void objectsStandAlone() {
        TwoSlots x = Due.with(Due.row(1, 2));
        TwoSlots y = new TwoSlots();
        Due.makeTrying(x, 1);
        Due.stateIs(y, "another object", 0, 0, 0, 0, 0, 0, 0, 0, 0, 0, 0);
    }

    private static void feedTakesBytes() {
        TwoSlots x = new TwoSlots();
        Due.due("feed(0)", x.feed(0), 1);
        Due.due("feed(255)", x.feed(255), 2);
        Due.due("feed(28)", x.feed(28), 3);
        Due.due("draft", x.state(10), 3);
        Due.due("publish()", x.publish(), 1);
        Due.patchIs(x, 1, 0, 3, 0, 255, 28);
    }

    private static void feedRefusesOthers() {
        TwoSlots x = new TwoSlots();
        int[] bad = {-1, 256, Integer.MIN_VALUE, Integer.MAX_VALUE};
        for (int b : bad) {
            Due.due("feed(" + b + ")", x.feed(b), TwoSlots.REFUSED);
        }
        Due.due("draft behind refusals", x.state(10), 0);
    }

    private static void feedIsFull() {
        TwoSlots x = new TwoSlots();
        for (int i = 1; i <= 40; i++) {
            Due.due("feed", x.feed(i), i);
        }
        Due.due("feed(1) with 40", x.feed(1), TwoSlots.FULL);
        Due.due("feed(256) with 40", x.feed(256), TwoSlots.REFUSED);
        Due.due("draft", x.state(10), 40);
        Due.due("publish()", x.publish(), 1);
        Due.due("feed(1) again", x.feed(1), 1);
        Due.due("last byte", x.patchByte(1, 0, 41), 40);
    }

    private static void reuseTakesRows() {
        TwoSlots x = Due.with(Due.row(10, 11, 12, 13, 14), Due.row(20, 21));
        Due.due("reuse(1, 1, 3)", x.reuse(1, 1, 3), 3);
        Due.due("reuse(2, 0, 2)", x.reuse(2, 0, 2), 5);
        Due.due("reuse(1, 4, 1)", x.reuse(1, 4, 1), 6);
        Due.due("reuse(1, 0, 5)", x.reuse(1, 0, 5), 11);
        Due.due("publish()", x.publish(), 3);
        Due.patchIs(x, 3, 0, 11, 11, 12, 13, 20, 21, 14, 10, 11, 12, 13, 14);
        Due.due("reuse(3, 10, 1)", x.reuse(3, 10, 1), 1);
    }

    private static void reuseRefuses() {
        TwoSlots x = Due.with(Due.row(10, 11, 12));
        int[][] bad = {
            {0, 0, 1}, {2, 0, 1}, {-1, 0, 1}, {7, 0, 1}, {Integer.MIN_VALUE, 0, 1},
            {Integer.MAX_VALUE, 0, 1}, {1, -1, 1}, {1, -1, 4}, {1, 3, 1}, {1, 2, 2}, {1, 0, 4},
            {1, 0, 0}, {1, 0, -1}, {1, 1, Integer.MAX_VALUE}, {1, Integer.MAX_VALUE, 1},
            {1, Integer.MAX_VALUE, Integer.MAX_VALUE}, {1, Integer.MIN_VALUE, 1},
            {1, 0, Integer.MIN_VALUE}, {1, 3, 0}, {0, 0, 0}
        };
        for (int[] b : bad) {
            String call = "reuse(" + b[0] + ", " + b[1] + ", " + b[2] + ")";
            Due.due(call, x.reuse(b[0], b[1], b[2]), TwoSlots.REFUSED);
        }
        Due.due("draft behind refusals", x.state(10), 0);
    }

    private static void reuseIsFull() {
        TwoSlots x = Due.with(Due.count(0, 30));
        Due.due("reuse(1, 0, 30)", x.reuse(1, 0, 30), 30);
        Due.due("reuse(1, 0, 11)", x.reuse(1, 0, 11), TwoSlots.FULL);
        Due.due("draft", x.state(10), 30);
        Due.due("reuse(1, 20, 11)", x.reuse(1, 20, 11), TwoSlots.REFUSED);
        Due.due("reuse(1, 5, 10)", x.reuse(1, 5, 10), 40);
        Due.due("reuse(1, 0, 1)", x.reuse(1, 0, 1), TwoSlots.FULL);
        Due.due("reuse(1, 30, 1)", x.reuse(1, 30, 1), TwoSlots.REFUSED);
        Due.due("reuse(1, 0, 0)", x.reuse(1, 0, 0), TwoSlots.REFUSED);
        Due.due("draft", x.state(10), 40);
    }

    private static void publishNumbers() {
        TwoSlots x = new TwoSlots();
        for (int i = 1; i <= 6; i++) {
            x.feed(i);
            Due.due("publish()", x.publish(), i);
            Due.due("versions", x.state(9), i);
            Due.due("draft", x.state(10), 0);
        }
        for (int i = 1; i <= 6; i++) {
            Due.patchIs(x, i, 0, 1, i);
        }
    }

    private static void publishRefusesAndIsFull() {
        TwoSlots x = new TwoSlots();
        Due.due("publish() of nothing", x.publish(), TwoSlots.REFUSED);
        Due.due("versions", x.state(9), 0);
        for (int i = 1; i <= 6; i++) {
            Due.publish(x, i, i);
        }
        Due.due("publish() of nothing with 6", x.publish(), TwoSlots.REFUSED);
        Due.due("feed(9)", x.feed(9), 1);
        Due.due("publish() with 6", x.publish(), TwoSlots.FULL);
        Due.due("versions", x.state(9), 6);
        Due.due("draft", x.state(10), 1);
        Due.due("feed(9)", x.feed(9), 2);
        Due.patchIs(x, 6, 0, 2, 6, 6);
    }
}

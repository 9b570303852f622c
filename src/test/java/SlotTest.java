/** Promises 13, 14 and 16: damage, slot, sound. */
public final class SlotTest {
    public static void main(String[] args) {
        damageChangesBytes();
        damageRefuses();
        slotRefuses();
        soundByLengthAndCheck();
        soundOfOthers();
        Due.end();
    }

    private static TwoSlots withOne() {
        TwoSlots x = Due.with(Due.row(10, 100, 30));
        Due.update(x, 1);
        return x;
    }

    private static void damageChangesBytes() {
        TwoSlots x = withOne();
        Due.due("damage(1, 0, 0)", x.damage(1, 0, 0), 0);
        Due.due("damage(1, 2, 255)", x.damage(1, 2, 255), 0);
        Due.slotIs(x, 1, 0, 100, 255);
        Due.due("damage(1, 1, 100)", x.damage(1, 1, 100), 0);
        Due.slotIs(x, 1, 0, 100, 255);
        Due.stateIs(x, "damaged", 0, 1, 0, 0, 1, 0, 3, 0, 0, 1, 0);
        // The shop's version is another row than the slot's.
        Due.patchIs(x, 1, 0, 3, 10, 100, 30);
    }

    private static void damageRefuses() {
        TwoSlots x = withOne();
        int[][] bad = {{0, 0, 1}, {1, 3, 1}, {1, -1, 1}, {2, 0, 1}, {-1, 0, 1}, {1, 0, -1},
            {1, 0, 256}, {Integer.MIN_VALUE, 0, 1}, {Integer.MAX_VALUE, 0, 1},
            {1, Integer.MIN_VALUE, 1}, {1, Integer.MAX_VALUE, 1}, {1, 0, Integer.MIN_VALUE},
            {1, 0, Integer.MAX_VALUE}};
        for (int[] b : bad) {
            String call = "damage(" + b[0] + ", " + b[1] + ", " + b[2] + ")";
            Due.due(call, x.damage(b[0], b[1], b[2]), TwoSlots.REFUSED);
        }
        Due.slotIs(x, 0);
        Due.slotIs(x, 1, 10, 100, 30);
        // Bytes of an earlier, longer row are not there any more.
        TwoSlots y = Due.with(Due.row(1, 2, 3), Due.row(4));
        Due.update(y, 1);
        Due.update(y, 2);
        Due.update(y, 2);
        Due.due("damage(1, 1, 5)", y.damage(1, 1, 5), TwoSlots.REFUSED);
        Due.due("slot(1, 1)", y.slot(1, 1), TwoSlots.REFUSED);
        Due.due("slot(1, 0)", y.slot(1, 0), 4);
    }

    private static void slotRefuses() {
        TwoSlots x = withOne();
        int[][] bad = {{0, 0}, {1, 3}, {1, -1}, {1, 40}, {2, 0}, {-1, 0}, {Integer.MIN_VALUE, 0},
            {Integer.MAX_VALUE, 0}, {1, Integer.MIN_VALUE}, {1, Integer.MAX_VALUE}};
        for (int[] b : bad) {
            String call = "slot(" + b[0] + ", " + b[1] + ")";
            Due.due(call, x.slot(b[0], b[1]), TwoSlots.REFUSED);
        }
        Due.slotIs(x, 1, 10, 100, 30);
    }

    private static void soundByLengthAndCheck() {
        TwoSlots x = withOne();
        Due.due("sound(1)", x.sound(1), true);
        for (int b = 0; b <= 255; b++) {
            x.damage(1, 1, b);
            Due.due("sound(1) with " + b, x.sound(1), b == 100);
        }
        // 100 + 31 * 1 = 69 + 31 * 2: another row with the same CHECK counts as SOUND.
        x.damage(1, 1, 69);
        x.damage(1, 0, 11);
        Due.due("sound(1) with the same CHECK", x.sound(1), true);
        x.damage(1, 2, 31);
        Due.due("sound(1) with another CHECK", x.sound(1), false);
        TwoSlots y = Due.with(Due.count(1, 40));
        Due.fetch(y, 1);
        Due.due("sound(1), empty", y.sound(1), false);
        y.install(1);
        Due.due("sound(1), too short", y.sound(1), false);
        y.install(1);
        Due.due("sound(1), whole", y.sound(1), true);
    }

    private static void soundOfOthers() {
        TwoSlots x = withOne();
        int[] bad = {-1, 2, 3, Integer.MIN_VALUE, Integer.MAX_VALUE};
        for (int slot : bad) {
            Due.due("sound(" + slot + ")", x.sound(slot), false);
        }
        Due.due("sound(0)", x.sound(0), true);
        Due.due("sound(1)", x.sound(1), true);
    }
}

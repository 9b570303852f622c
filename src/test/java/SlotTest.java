/** Promises 13, 14 and 16: damage, slot, sound, and the CHECK that sound goes by. */
public final class SlotTest {
    private static final int LEAST = Integer.MIN_VALUE;
    private static final int MOST = Integer.MAX_VALUE;
    private static final int[] NO_SLOTS = {-1, 2, -2, 3, 256, 257, LEAST, LEAST + 1, MOST};

    public static void main(String[] args) {
        damageChangesBytes();
        damageRefusesOtherSlots();
        damageRefusesOtherPlaces();
        damageRefusesWhatIsNoByte();
        damageInEveryState();
        slotGivesBytes();
        slotRefuses();
        bytesOfAnEarlierRowAreGone();
        checkOfOneByte();
        checkMultipliesBy31();
        checkKeepsSixteenBits();
        soundAsksForTheLength();
        soundGoesByTheMark();
        soundOfOtherNumbers();
        Due.end();
    }

    /** Slot 0 is empty, slot 1 runs version 1. */
    private static Run withOne() {
        Run x = Run.with(Rows.row(10, 100, 30));
        x.update(1);
        return x;
    }

    private static void damageChangesBytes() {
        Due.sentence("Promise 13: damage", "Byte i of a slot's row becomes b: 0.");
        Run x = withOne();
        x.due(0, "damage", 1, 0, 0);
        x.slotIs(1, 0, 100, 30);
        x.due(0, "damage", 1, 2, 255);
        x.slotIs(1, 0, 100, 255);
        x.due(0, "damage", 1, 1, 100);
        x.slotIs(1, 0, 100, 255);
        x.stateIs(TwoSlots.IDLE, 1, 0, 0, 1, 0, 3, 0, 0, 1, 0);
        // The shop's version is another row than the slot's.
        x.patchIs(1, 0, 3, 10, 100, 30);
        Run whole = Run.with(Rows.count(1, 40));
        whole.update(1);
        whole.due(0, "damage", 1, 39, 7);
        whole.due(7, "slot", 1, 39);
    }

    private static void damageRefusesOtherSlots() {
        Due.sentence("Promise 13: damage", "REFUSED if there is none, or b is no byte.");
        for (int slot : NO_SLOTS) {
            withOne().refuses(TwoSlots.REFUSED, "damage", slot, 0, 1);
        }
        withOne().due(0, "damage", 1, 0, 1);
        Run x = withOne();
        x.update(1);
        x.due(0, "damage", 0, 0, 1);
    }

    private static void damageRefusesOtherPlaces() {
        Due.sentence("Promise 13: damage", "REFUSED if there is none, or b is no byte.");
        int[] none = {-1, 3, 4, 39, 40, 41, LEAST, MOST};
        for (int i : none) {
            withOne().refuses(TwoSlots.REFUSED, "damage", 1, i, 1);
        }
        withOne().due(0, "damage", 1, 0, 1);
        withOne().due(0, "damage", 1, 2, 1);
        // An empty row has no byte 0.
        withOne().refuses(TwoSlots.REFUSED, "damage", 0, 0, 1);
        new Run().refuses(TwoSlots.REFUSED, "damage", 0, 0, 0);
        new Run().refuses(TwoSlots.REFUSED, "damage", 1, 0, 0);
        Run whole = Run.with(Rows.count(1, 40));
        whole.update(1);
        whole.refuses(TwoSlots.REFUSED, "damage", 1, 40, 1);
    }

    private static void damageRefusesWhatIsNoByte() {
        Due.sentence("Promise 13: damage", "REFUSED if there is none, or b is no byte.");
        int[] none = {-1, 256, 257, -256, 511, 65536, LEAST, MOST};
        for (int b : none) {
            withOne().refuses(TwoSlots.REFUSED, "damage", 1, 0, b);
            withOne().refuses(TwoSlots.REFUSED, "damage", 1, 3, b);
        }
        withOne().due(0, "damage", 1, 0, 0);
        withOne().due(0, "damage", 1, 0, 255);
    }

    private static void damageInEveryState() {
        Due.sentence("Promise 13: damage", "Byte i of a slot's row becomes b: 0.");
        Run x = Run.with(Rows.count(1, 4), Rows.count(50, 40));
        x.update(1);
        x.due(9, "offer", 2);
        x.due(0, "damage", 1, 3, 9);
        x.fetch(2);
        x.refuses(TwoSlots.REFUSED, "damage", 0, 0, 9);
        x.due(TwoSlots.INSTALLING, "install", 1);
        x.refuses(TwoSlots.REFUSED, "damage", 0, 31, 9);
        x.due(0, "damage", 0, 30, 9);
        x.due(0, "damage", 0, 30, 80);
        x.due(TwoSlots.READY, "install", 1);
        x.due(0, "damage", 0, 39, 9);
        x.due(0, "damage", 0, 39, 89);
        x.due(TwoSlots.READY, "state", 0);
        x.due(0, "boot");
        x.due(0, "damage", 0, 0, 9);
        x.stateIs(TwoSlots.TRYING, 0, 2);
        x.due(9, "slot", 0, 0);
        x.slotIs(1, 1, 2, 3, 9);
    }

    private static void slotGivesBytes() {
        Due.sentence("Promise 14: slot", "Byte i of a slot's row; REFUSED if there is none.");
        Run x = Run.with(Rows.count(200, 40), Rows.row(0, 255));
        x.update(1);
        x.update(2);
        for (int i = 0; i < 40; i++) {
            x.due(200 + i, "slot", 1, i);
        }
        x.due(0, "slot", 0, 0);
        x.due(255, "slot", 0, 1);
    }

    private static void slotRefuses() {
        Due.sentence("Promise 14: slot", "Byte i of a slot's row; REFUSED if there is none.");
        for (int slot : NO_SLOTS) {
            withOne().refuses(TwoSlots.REFUSED, "slot", slot, 0);
        }
        int[] none = {-1, 3, 4, 39, 40, 41, LEAST, MOST};
        for (int i : none) {
            withOne().refuses(TwoSlots.REFUSED, "slot", 1, i);
            withOne().refuses(TwoSlots.REFUSED, "slot", 0, i);
        }
        withOne().due(10, "slot", 1, 0);
        withOne().due(30, "slot", 1, 2);
        withOne().refuses(TwoSlots.REFUSED, "slot", 0, 0);
        Run whole = Run.with(Rows.count(1, 40));
        whole.update(1);
        whole.due(40, "slot", 1, 39);
        whole.refuses(TwoSlots.REFUSED, "slot", 1, 40);
    }

    private static void bytesOfAnEarlierRowAreGone() {
        Due.sentence("Promise 14: slot", "Byte i of a slot's row; REFUSED if there is none.");
        Run x = Run.with(Rows.row(1, 2, 3), Rows.row(4));
        x.update(1);
        x.update(2);
        x.update(2);
        x.slotIs(1, 4);
        x.refuses(TwoSlots.REFUSED, "damage", 1, 1, 5);
        x.refuses(TwoSlots.REFUSED, "slot", 1, 1);
    }

    private static void checkSentence() {
        Due.sentence("Terms",
                "CHECK of a row: c = 17; for each byte: c = (c * 31 + byte) & 65535.");
    }

    private static void checkOfOneByte() {
        checkSentence();
        Run x = withOne();
        for (int b = 0; b <= 255; b++) {
            if (x.callsLeft() < 2) {
                x = withOne();
            }
            x.due(0, "damage", 1, 1, b);
            x.due(b == 100 ? 1 : 0, "sound", 1);
        }
    }

    /** A slot with a row of 100 each, changed by so much from its first byte on: SOUND or not. */
    private static void changedBy(int sound, int... by) {
        Run x = Run.with(Rows.row(100, 100, 100, 100, 100, 100));
        x.update(1);
        for (int i = 0; i < by.length; i++) {
            x.due(0, "damage", 1, i, 100 + by[i]);
        }
        x.due(sound, "sound", 1);
    }

    private static void checkMultipliesBy31() {
        checkSentence();
        changedBy(1, 1, -31);
        changedBy(0, 1, -30);
        changedBy(0, 1, -32);
        changedBy(0, 1, -33);
        changedBy(0, 1, -29);
        changedBy(1, -2, 62);
        changedBy(1, 0, 0, 0, 0, 1, -31);
        changedBy(0, 1, -1);
        changedBy(0, 1, 0, -31);
        changedBy(1, 1, -30, -31);
    }

    private static void checkKeepsSixteenBits() {
        checkSentence();
        // 65536 = 2 * 31^3 + 6 * 31^2 + 6 * 31 + 2, and 32768 is half of each.
        changedBy(1, 0, 0, 2, 6, 6, 2);
        changedBy(1, 0, 2, 6, 6, 2, 0);
        changedBy(1, 0, 0, -2, -6, -6, -2);
        changedBy(0, 0, 0, 1, 3, 3, 1);
        changedBy(0, 0, 0, 2, 6, 6, 1);
        changedBy(0, 0, 0, 2, 6, 6, 3);
    }

    /** Bytes, 4 or more, that put behind a row leave it the CHECK that it had without them. */
    private static int[] tail(int[] row, int many) {
        int[] tail = new int[many];
        int lacking = (check(row) - check(Rows.join(row, tail))) & 65535;
        // Its digits to the base of 31 are what the last four bytes add to the CHECK.
        for (int i = many - 1; i >= many - 4; i--) {
            tail[i] = lacking % 31;
            lacking /= 31;
        }
        return tail;
    }

    private static int check(int[] row) {
        int c = 17;
        for (int b : row) {
            c = (c * 31 + b) & 65535;
        }
        return c;
    }

    private static void soundAsksForTheLength() {
        Due.sentence("Terms",
                "A slot is SOUND if its row has the length and the CHECK of its mark's version.");
        int[] first = Rows.count(1, 31);
        int[] all = Rows.join(first, tail(first, 9));
        Due.due("CHECK of the longer row", check(all), check(first));
        Run x = Run.with(all);
        x.fetch(1);
        x.due(0, "sound", 1);
        x.due(TwoSlots.INSTALLING, "install", 1);
        x.slotIs(1, first);
        x.due(0, "sound", 1);
        x.due(TwoSlots.READY, "install", 1);
        x.due(1, "sound", 1);
        // The empty row's CHECK is 17; a version may have the same.
        int[] seventeen = tail(Rows.row(), 4);
        Due.due("CHECK of the version", check(seventeen), 17);
        Run y = Run.with(seventeen);
        y.fetch(1);
        y.due(0, "sound", 1);
        y.due(TwoSlots.READY, "install", 1);
        y.due(1, "sound", 1);
    }

    private static void soundGoesByTheMark() {
        Due.sentence("Promise 16: sound", "Whether the slot is SOUND; false for other numbers.");
        // Slot 1 holds version 1, then version 2 by its mark but version 1 by its bytes.
        Run x = Run.with(Rows.row(1, 2, 3), Rows.row(1, 2, 4));
        x.update(1);
        x.due(1, "sound", 1);
        x.due(0, "damage", 1, 2, 4);
        x.due(0, "sound", 1);
        x.due(0, "damage", 1, 2, 3);
        x.due(1, "sound", 1);
        x.due(1, "sound", 0);
        x.fetch(2);
        x.due(0, "sound", 0);
        x.due(TwoSlots.READY, "install", 1);
        x.due(1, "sound", 0);
        x.due(0, "damage", 0, 2, 3);
        x.due(0, "sound", 0);
        x.due(1, "sound", 1);
    }

    private static void soundOfOtherNumbers() {
        Due.sentence("Promise 16: sound", "Whether the slot is SOUND; false for other numbers.");
        for (int slot : NO_SLOTS) {
            new Run().due(0, "sound", slot);
            withOne().due(0, "sound", slot);
        }
        withOne().due(1, "sound", 0);
        withOne().due(1, "sound", 1);
    }
}

/**
 * The life of one object in exactly 512 calls: every method is among them, the device goes through
 * all its states, and each answer to the last one is worked out by hand from the document.
 */
public final class LifeTest {
    private static final String[] METHODS = {"feed", "reuse", "publish", "patch", "patchByte",
        "saved", "offer", "block", "install", "boot", "confirm", "damage", "slot", "state",
        "sound"};
    /** 1 .. 12, then 100 .. 127. */
    private static final int[] SECOND = Rows.join(Rows.count(1, 12), Rows.count(100, 28));
    private static final int[] THIRD = {9, 10, 11, 12, 100, 101, 102, 103, 7};

    public static void main(String[] args) {
        Due.sentence("What it is", "An object is used for at most 512 calls after it has been made;"
                + " what later calls answer is free.");
        Run x = new Run();
        atFirst(x);
        threeVersions(x);
        theirPatches(x);
        firstUpdate(x);
        newOneGoesBack(x);
        updateFails(x);
        updateBehindBoots(x);
        otherSlotHelps(x);
        deadAndAlive(x);
        threeMoreVersions(x);
        sameCheckIsSound(x);
        newOneIsSpoiled(x);
        offerDropsOffer(x);
        toTheLastCall(x);
        Due.due("calls left", x.callsLeft(), 0);
        for (String method : METHODS) {
            Due.due(method + " is among the calls", x.hasCalled(method), true);
        }
        for (int state = TwoSlots.IDLE; state <= TwoSlots.TRYING; state++) {
            Due.due("state " + state + " is gone through", x.hasAnswered(state, "state", 0), true);
        }
        Due.end();
    }

    private static void atFirst(Run x) {
        x.stateIs(TwoSlots.IDLE, 0, 0, 0, 0, 0, 0, 0, 0, 0, 0, TwoSlots.REFUSED);
        x.due(1, "sound", 0);
        x.due(1, "sound", 1);
        x.due(0, "sound", 2);
        x.due(TwoSlots.REFUSED, "slot", 0, 0);
        x.due(TwoSlots.REFUSED, "damage", 0, 0, 1);
        x.due(TwoSlots.REFUSED, "publish");
        x.due(TwoSlots.REFUSED, "patch", 1, 0);
        x.due(TwoSlots.REFUSED, "offer", 1);
        x.due(TwoSlots.REFUSED, "block", 0, 0);
        x.due(TwoSlots.NOT_NOW, "install", 1);
        x.due(TwoSlots.NOT_NOW, "confirm");
        x.due(0, "boot");
    }

    private static void threeVersions(Run x) {
        x.publish(Rows.count(1, 12));
        x.due(TwoSlots.REFUSED, "reuse", 1, 0, 13);
        x.due(12, "reuse", 1, 0, 12);
        for (int i = 0; i < 28; i++) {
            x.due(13 + i, "feed", 100 + i);
        }
        x.due(TwoSlots.REFUSED, "feed", 256);
        x.due(TwoSlots.FULL, "feed", 1);
        x.due(TwoSlots.FULL, "reuse", 1, 11, 1);
        x.due(2, "publish");
        x.due(8, "reuse", 2, 8, 8);
        x.due(9, "feed", 7);
        x.due(3, "publish");
        x.due(3, "state", 9);
        x.due(0, "state", 10);
    }

    private static void theirPatches(Run x) {
        x.patchIs(1, 0, Rows.join(Rows.row(12), Rows.count(1, 12)));
        x.due(0, "saved", 1, 0);
        x.patchIs(3, 1, 32, 8, 5, 100, 101, 102, 103, 7);
        x.due(4, "saved", 3, 1);
        x.patchIs(3, 2, 36, 8, 1, 7);
        x.due(8, "saved", 3, 2);
        x.due(31, "patch", 2, 1);
        x.due(12, "saved", 2, 1);
        x.patchIs(1, 2, 40, 0);
        x.due(36, "patch", 2, 3);
        x.due(8, "saved", 2, 3);
        x.due(TwoSlots.REFUSED, "saved", 4, 0);
    }

    /** Version 1 into slot 1, with blocks lost, spoiled and come again. */
    private static void firstUpdate(Run x) {
        x.due(3, "offer", 1);
        x.due(TwoSlots.FETCHING, "state", 0);
        x.due(TwoSlots.SPOILED, "block", 0, 1);
        x.due(2, "block", 2, 0);
        x.due(2, "block", 2, 0);
        x.due(1, "block", 0, 0);
        x.due(TwoSlots.SPOILED, "block", 1, 255);
        x.due(TwoSlots.REFUSED, "block", 1, 256);
        x.due(TwoSlots.REFUSED, "block", 3, 0);
        x.stateIs(TwoSlots.FETCHING, 0, 0, 0, 0, 0, 0, 1, 2);
        x.due(0, "block", 1, 0);
        x.stateIs(TwoSlots.INSTALLING, 0, 0, 0, 1, 0, 0, 1, 3);
        x.due(TwoSlots.NOT_NOW, "block", 1, 0);
        x.due(TwoSlots.REFUSED, "install", 21);
        x.due(TwoSlots.READY, "install", 1);
        x.stateIs(TwoSlots.READY, 0, 0, 0, 1, 0, 12, 1, 3);
        x.due(TwoSlots.NOT_NOW, "offer", 1);
        x.due(1, "boot");
        x.stateIs(TwoSlots.TRYING, 1, 2, 0, 1, 0, 12, 0, 0);
        x.due(TwoSlots.NOT_NOW, "offer", 1);
        x.due(0, "confirm");
        x.stateIs(TwoSlots.IDLE, 1, 0, 0, 1, 0, 12, 0, 0);
        x.slotIs(1, Rows.count(1, 12));
    }

    private static void fetch(Run x, int version, int blocks) {
        x.due(blocks, "offer", version);
        for (int i = blocks - 1; i >= 0; i--) {
            x.due(i, "block", i, 0);
        }
    }

    /** Version 2 into slot 0: nobody confirms it. */
    private static void newOneGoesBack(Run x) {
        fetch(x, 2, 7);
        x.due(TwoSlots.INSTALLING, "install", 1);
        x.due(12, "state", 5);
        x.due(TwoSlots.READY, "install", 1);
        for (int tries = 2; tries >= 0; tries--) {
            x.due(0, "boot");
            x.due(TwoSlots.TRYING, "state", 0);
            x.due(tries, "state", 2);
        }
        x.due(1, "boot");
        x.stateIs(TwoSlots.IDLE, 1, 0, 2, 1, 40, 12, 0, 0);
        x.slotIs(0, SECOND);
    }

    /** The copy of version 3 brings a spoiled byte of the slot that runs. */
    private static void updateFails(Run x) {
        fetch(x, 3, 2);
        x.due(0, "damage", 1, 8, 99);
        x.due(TwoSlots.INSTALLING, "install", 1);
        x.slotIs(0, 99, 10, 11, 12);
        x.due(TwoSlots.IDLE, "install", 20);
        x.stateIs(TwoSlots.IDLE, 1, 0, 3, 1, 9, 12, 0, 0);
        x.due(0, "sound", 0);
        x.due(0, "sound", 1);
        x.due(0, "damage", 1, 8, 9);
        x.due(1, "sound", 1);
    }

    private static void updateBehindBoots(Run x) {
        x.due(2, "offer", 3);
        x.due(1, "block", 1, 0);
        x.due(1, "boot");
        x.due(TwoSlots.FETCHING, "state", 0);
        x.due(1, "state", 8);
        x.due(0, "block", 0, 0);
        x.due(TwoSlots.INSTALLING, "install", 1);
        x.due(4, "state", 5);
        x.due(1, "boot");
        x.due(TwoSlots.INSTALLING, "state", 0);
        x.due(0, "state", 5);
        x.due(TwoSlots.READY, "install", 2);
        x.slotIs(0, THIRD);
        x.due(0, "boot");
        x.due(0, "confirm");
        x.stateIs(TwoSlots.IDLE, 0, 0, 3, 1, 9, 12);
    }

    private static void otherSlotHelps(Run x) {
        x.due(8, "offer", 2);
        x.due(7, "block", 7, 0);
        x.due(0, "damage", 0, 0, 0);
        x.due(1, "boot");
        x.stateIs(TwoSlots.IDLE, 1, 0, 3, 1, 9, 12, 0, 0);
        x.due(TwoSlots.REFUSED, "block", 7, 0);
    }

    private static void deadAndAlive(Run x) {
        x.due(0, "damage", 1, 11, 0);
        x.due(TwoSlots.DEAD, "boot");
        x.due(1, "state", 1);
        x.due(0, "damage", 0, 0, 9);
        x.due(0, "boot");
        x.due(0, "damage", 1, 11, 12);
        x.due(0, "boot");
    }

    private static void threeMoreVersions(Run x) {
        x.due(9, "reuse", 3, 0, 9);
        x.due(4, "publish");
        x.due(40, "reuse", 2, 0, 40);
        x.due(5, "publish");
        x.publish(200);
        x.due(TwoSlots.REFUSED, "publish");
        x.due(1, "feed", 0);
        x.due(TwoSlots.FULL, "publish");
        x.due(2, "patch", 4, 3);
        x.due(37, "patchByte", 4, 3, 0);
        x.due(68, "patchByte", 5, 2, 0);
        x.due(TwoSlots.REFUSED, "patchByte", 5, 2, 2);
        x.due(TwoSlots.REFUSED, "patch", 7, 6);
    }

    /** One more, and 31 less on the next place, give the same CHECK. */
    private static void sameCheckIsSound(Run x) {
        x.due(0, "damage", 0, 4, 101);
        x.due(0, "sound", 0);
        x.due(0, "damage", 0, 5, 70);
        x.due(1, "sound", 0);
        x.due(0, "boot");
        x.due(0, "damage", 0, 4, 100);
        x.due(0, "damage", 0, 5, 101);
    }

    /** Version 6 into slot 1: it is READY, and yet not SOUND when it is to run. */
    private static void newOneIsSpoiled(Run x) {
        x.patchIs(6, 3, 1, 200);
        fetch(x, 6, 1);
        x.due(TwoSlots.READY, "install", 20);
        x.due(TwoSlots.NOT_NOW, "confirm");
        x.due(200, "slot", 1, 0);
        x.due(0, "damage", 1, 0, 201);
        x.due(0, "boot");
        x.stateIs(TwoSlots.IDLE, 0, 0, 3, 6, 9, 1, 0, 0);
    }

    /** What the first offer had fetched is of no use to the second one. */
    private static void offerDropsOffer(Run x) {
        x.due(8, "offer", 5);
        x.due(7, "block", 0, 0);
        x.due(1, "offer", 6);
        x.due(6, "state", 7);
        x.due(0, "state", 8);
        x.due(0, "block", 0, 0);
        x.due(8, "offer", 5);
        x.stateIs(TwoSlots.FETCHING, 0, 0, 3, 6, 9, 0, 5, 0, 6, 1);
    }

    /** Version 5 into slot 1; the last call is the boot that goes back to slot 0. */
    private static void toTheLastCall(Run x) {
        for (int i = 0; i < 8; i++) {
            x.due(7 - i, "block", i, 0);
        }
        x.due(TwoSlots.INSTALLING, "install", 2);
        x.slotIs(1, Rows.join(Rows.count(1, 12), Rows.count(100, 4)));
        x.due(TwoSlots.READY, "install", 1);
        x.stateIs(TwoSlots.READY, 0, 0, 3, 5, 9, 40, 5, 8, 6, 1);
        x.slotIs(1, SECOND);
        x.slotIs(0, THIRD);
        x.due(1, "boot");
        x.due(1, "boot");
        x.due(1, "boot");
        x.due(TwoSlots.NOT_NOW, "install", 1);
        x.stateIs(TwoSlots.TRYING, 1, 0, 3, 5, 9, 40, 0, 0);
        x.due(0, "boot");
    }
}

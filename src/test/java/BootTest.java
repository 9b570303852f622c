/** Promises 11 and 12: boot and confirm, and what the terms say of a BOOT. */
public final class BootTest {
    public static void main(String[] args) {
        idleBoots();
        readyIsTried();
        triesRunOut();
        fetchingGoesOn();
        installingBeginsAnew();
        otherIsSoundWhenIdle();
        otherIsSoundWhenFetching();
        otherIsSoundWhenReady();
        otherIsSoundWhenTrying();
        otherIsSoundWhenTriesRunOut();
        theEmptySlotIsSound();
        spoiledSpareDoesNoHarm();
        deadWhenIdle();
        deadWhenFetching();
        deadWhenInstalling();
        deadWhenReady();
        deadWhenTrying();
        aliveAgain();
        confirmKeeps();
        confirmNotNow();
        Due.end();
    }

    /** IDLE, slot 0 runs version 2, and slot 1 has version 1. */
    private static Run twoKept() {
        Run x = Run.with(Rows.count(1, 5), Rows.count(11, 6), Rows.count(3, 40));
        x.update(1);
        x.update(2);
        x.stateIs(TwoSlots.IDLE, 0, 0, 2, 1, 6, 5);
        return x;
    }

    /** As twoKept, but TRYING version 1 in slot 1 with so many tries left. */
    private static Run tryingWith(int left) {
        Run x = twoKept();
        x.makeTrying(1);
        for (int i = left; i < 2; i++) {
            x.due(1, "boot");
        }
        x.stateIs(TwoSlots.TRYING, 1, left);
        return x;
    }

    private static void idleBoots() {
        Due.sentence("Promise 11: boot", "A BOOT: the slot that runs, or DEAD.");
        Run x = twoKept();
        for (int i = 0; i < 4; i++) {
            x.due(0, "boot");
            x.stateIs(TwoSlots.IDLE, 0, 0, 2, 1, 6, 5, 0, 0, 3, 0);
        }
        x.slotIs(0, Rows.count(11, 6));
        x.slotIs(1, Rows.count(1, 5));
    }

    private static void readyIsTried() {
        Due.sentence("Terms",
                "READY: the SPARE runs, the other one is the SPARE; TRYING with 2 tries left.");
        Run x = twoKept();
        x.makeReady(3);
        x.stateIs(TwoSlots.READY, 0, 0, 2, 3, 6, 40);
        x.due(1, "boot");
        x.stateIs(TwoSlots.TRYING, 1, 2, 2, 3, 6, 40, 0, 0, 3, 0);
        x.slotIs(0, Rows.count(11, 6));
        x.slotIs(1, Rows.count(3, 40));
        // From slot 1 to slot 0, too.
        x.due(0, "confirm");
        x.makeReady(1);
        x.due(0, "boot");
        x.stateIs(TwoSlots.TRYING, 0, 2, 1, 3, 5, 40, 0, 0, 3, 0);
    }

    private static void triesRunOut() {
        Due.sentence("Terms", "TRYING with 0 .. 2 tries left");
        Run x = twoKept();
        x.makeTrying(1);
        x.stateIs(TwoSlots.TRYING, 1, 2, 2, 1, 6, 5, 0, 0);
        x.due(1, "boot");
        x.stateIs(TwoSlots.TRYING, 1, 1, 2, 1, 6, 5, 0, 0);
        x.due(1, "boot");
        x.stateIs(TwoSlots.TRYING, 1, 0, 2, 1, 6, 5, 0, 0);
        Due.sentence("Terms", "TRYING, with tries left: one less; without: the slots change places,"
                + " IDLE.");
        x.due(0, "boot");
        x.stateIs(TwoSlots.IDLE, 0, 0, 2, 1, 6, 5, 0, 0);
        x.due(0, "boot");
        x.stateIs(TwoSlots.IDLE, 0, 0, 2, 1, 6, 5, 0, 0);
        x.refuses(TwoSlots.NOT_NOW, "confirm");
        // The next update has all its tries again.
        x.makeTrying(3);
        x.due(2, "state", 2);
    }

    private static void fetchingGoesOn() {
        Due.sentence("Terms", "FETCHING goes on as it is behind a boot");
        Run x = Run.with(Rows.count(1, 12));
        x.due(3, "offer", 1);
        x.due(0, "boot");
        x.stateIs(TwoSlots.FETCHING, 0, 0, 0, 0, 0, 0, 1, 0, 1, 0);
        x.due(2, "block", 1, 0);
        x.due(0, "boot");
        x.stateIs(TwoSlots.FETCHING, 0, 0, 0, 0, 0, 0, 1, 1, 1, 0);
        x.due(2, "block", 1, 0);
        x.due(1, "block", 0, 0);
        x.due(0, "boot");
        x.due(0, "block", 2, 0);
        x.due(TwoSlots.READY, "install", 1);
        x.slotIs(1, Rows.count(1, 12));
        // The spare is left alone, too.
        Run y = twoKept();
        y.due(8, "offer", 3);
        y.due(0, "boot");
        y.slotIs(1, Rows.count(1, 5));
    }

    private static void installingBeginsAnew() {
        Due.sentence("Terms", "INSTALLING begins anew, with the SPARE empty and the patch's first"
                + " byte next.");
        Run x = Run.with(Rows.count(1, 40));
        x.fetch(1);
        x.due(0, "boot");
        x.stateIs(TwoSlots.INSTALLING, 0, 0, 0, 1, 0, 0, 1, 9, 1, 0);
        x.due(TwoSlots.INSTALLING, "install", 1);
        x.due(31, "state", 6);
        x.due(0, "boot");
        x.stateIs(TwoSlots.INSTALLING, 0, 0, 0, 1, 0, 0, 1, 9, 1, 0);
        x.slotIs(1);
        x.due(TwoSlots.INSTALLING, "install", 1);
        x.slotIs(1, Rows.count(1, 31));
        x.due(TwoSlots.READY, "install", 1);
        x.slotIs(1, Rows.count(1, 40));
        // What was spoiled before is gone with the row.
        Run y = Run.with(Rows.count(1, 40));
        y.fetch(1);
        y.due(TwoSlots.INSTALLING, "install", 1);
        y.spoil(1);
        y.due(0, "boot");
        y.due(TwoSlots.READY, "install", 2);
    }

    private static void otherIsSoundSentence() {
        Due.sentence("Terms", "Then, if the slot that runs is not SOUND: if the other one is, the"
                + " slots change places, and the device is IDLE");
    }

    private static void otherIsSoundWhenIdle() {
        otherIsSoundSentence();
        Run x = twoKept();
        x.spoil(0);
        x.due(0, "state", 1);
        x.due(1, "boot");
        x.stateIs(TwoSlots.IDLE, 1, 0, 2, 1, 6, 5, 0, 0);
        x.due(1, "boot");
        // Mended, the other one does not come back by itself.
        x.mend(0);
        x.due(1, "boot");
        x.spoil(1);
        x.due(0, "boot");
    }

    private static void otherIsSoundWhenFetching() {
        otherIsSoundSentence();
        Run x = twoKept();
        x.due(8, "offer", 3);
        x.due(7, "block", 0, 0);
        x.spoil(0);
        x.due(1, "boot");
        x.stateIs(TwoSlots.IDLE, 1, 0, 2, 1, 6, 5, 0, 0, 3, 0);
        x.refuses(TwoSlots.REFUSED, "block", 1, 0);
        x.refuses(TwoSlots.NOT_NOW, "install", 1);
    }

    private static void otherIsSoundWhenReady() {
        otherIsSoundSentence();
        Run x = twoKept();
        x.makeReady(1);
        x.spoil(1);
        x.due(TwoSlots.READY, "state", 0);
        x.due(0, "boot");
        x.stateIs(TwoSlots.IDLE, 0, 0, 2, 1, 6, 5, 0, 0);
        // The old one being spoiled does not keep the new one from being tried.
        Run y = twoKept();
        y.makeReady(1);
        y.spoil(0);
        y.due(1, "boot");
        y.stateIs(TwoSlots.TRYING, 1, 2, 2, 1, 6, 5, 0, 0);
    }

    private static void otherIsSoundWhenTrying() {
        otherIsSoundSentence();
        for (int left = 2; left >= 0; left--) {
            Run x = tryingWith(left);
            x.spoil(1);
            x.due(0, "boot");
            x.stateIs(TwoSlots.IDLE, 0, 0, 2, 1, 6, 5, 0, 0);
        }
    }

    /** Without tries it goes back, finds that one spoiled, and stays where it was. */
    private static void otherIsSoundWhenTriesRunOut() {
        otherIsSoundSentence();
        Run x = tryingWith(0);
        x.spoil(0);
        x.due(1, "boot");
        x.stateIs(TwoSlots.IDLE, 1, 0, 2, 1, 6, 5, 0, 0);
    }

    private static void theEmptySlotIsSound() {
        otherIsSoundSentence();
        Run x = Run.with(Rows.row(1, 2));
        x.update(1);
        x.spoil(1);
        x.due(0, "boot");
        x.stateIs(TwoSlots.IDLE, 0, 0, 0, 1, 0, 2);
        x.due(1, "offer", 1);
        x.due(0, "block", 0, 0);
        x.due(TwoSlots.READY, "install", 1);
        x.slotIs(1, 1, 2);
    }

    private static void spoiledSpareDoesNoHarm() {
        otherIsSoundSentence();
        Run x = twoKept();
        x.spoil(1);
        x.due(0, "boot");
        x.stateIs(TwoSlots.IDLE, 0, 0, 2, 1, 6, 5);
        x.due(8, "offer", 3);
        x.due(0, "boot");
        x.stateIs(TwoSlots.FETCHING, 0, 0, 2, 1, 6, 5, 3, 0);
    }

    private static void deadSentence() {
        Due.sentence("Terms", "else it answers DEAD (and stays as it is).");
    }

    private static void deadWhenIdle() {
        deadSentence();
        Run x = twoKept();
        x.spoil(0);
        x.spoil(1);
        x.refuses(TwoSlots.DEAD, "boot");
        x.stateIs(TwoSlots.IDLE, 0, 0, 2, 1, 6, 5, 0, 0);
        x.refuses(TwoSlots.DEAD, "boot");
        x.due(8, "offer", 3);
    }

    private static void deadWhenFetching() {
        deadSentence();
        Run x = twoKept();
        x.due(8, "offer", 3);
        x.due(7, "block", 2, 0);
        x.spoil(0);
        x.spoil(1);
        x.refuses(TwoSlots.DEAD, "boot");
        x.stateIs(TwoSlots.FETCHING, 0, 0, 2, 1, 6, 5, 3, 1);
        x.due(6, "block", 0, 0);
    }

    /** An empty or half spare is never SOUND, so a spoiled slot that runs is enough. */
    private static void deadWhenInstalling() {
        Due.sentence("Terms", "INSTALLING begins anew, with the SPARE empty and the patch's first"
                + " byte next.");
        Run x = twoKept();
        x.fetch(3);
        x.spoil(0);
        x.refuses(TwoSlots.DEAD, "boot");
        x.due(TwoSlots.INSTALLING, "install", 1);
        // The boot begins an installation anew; that stands if it answers DEAD, too.
        x.due(TwoSlots.DEAD, "boot");
        x.stateIs(TwoSlots.INSTALLING, 0, 0, 2, 3, 6, 0, 3, 8);
        x.mend(0);
        x.due(TwoSlots.READY, "install", 20);
        x.slotIs(1, Rows.count(3, 40));
    }

    private static void deadWhenReady() {
        deadSentence();
        Run x = twoKept();
        x.makeReady(1);
        x.spoil(0);
        x.spoil(1);
        int[][] then = {{TwoSlots.TRYING, 1, 2}, {TwoSlots.TRYING, 1, 1}, {TwoSlots.TRYING, 1, 0},
            {TwoSlots.IDLE, 0, 0}, {TwoSlots.IDLE, 0, 0}};
        for (int[] numbers : then) {
            x.due(TwoSlots.DEAD, "boot");
            x.stateIs(Rows.join(numbers, Rows.row(2, 1, 6, 5, 0, 0)));
        }
    }

    private static void deadWhenTrying() {
        Due.sentence("Terms", "A call that answers a number below 0 changes nothing, but DEAD as"
                + " said.");
        for (int left = 2; left >= 0; left--) {
            Run x = tryingWith(left);
            x.spoil(0);
            x.spoil(1);
            x.due(TwoSlots.DEAD, "boot");
            if (left > 0) {
                x.stateIs(TwoSlots.TRYING, 1, left - 1, 2, 1, 6, 5, 0, 0);
                x.due(0, "confirm");
                x.stateIs(TwoSlots.IDLE, 1, 0);
            } else {
                x.stateIs(TwoSlots.IDLE, 0, 0, 2, 1, 6, 5, 0, 0);
            }
        }
    }

    private static void aliveAgain() {
        deadSentence();
        Run x = twoKept();
        x.spoil(0);
        x.spoil(1);
        x.due(TwoSlots.DEAD, "boot");
        x.mend(1);
        x.due(1, "boot");
        x.mend(0);
        x.due(1, "boot");
        Run y = twoKept();
        y.spoil(0);
        y.spoil(1);
        y.due(TwoSlots.DEAD, "boot");
        y.mend(0);
        y.due(0, "boot");
    }

    private static void confirmKeeps() {
        Due.sentence("Promise 12: confirm",
                "The version that runs is kept: TRYING becomes IDLE: 0.");
        for (int left = 2; left >= 0; left--) {
            Run x = tryingWith(left);
            x.due(0, "confirm");
            x.stateIs(TwoSlots.IDLE, 1, 0, 2, 1, 6, 5, 0, 0);
            for (int i = 0; i < 4; i++) {
                x.due(1, "boot");
            }
        }
        // It may be spoiled: confirm does not look.
        Run y = tryingWith(2);
        y.spoil(1);
        y.due(0, "confirm");
        y.stateIs(TwoSlots.IDLE, 1, 0);
    }

    private static void confirmNotNow() {
        Due.sentence("Promise 12: confirm", "NOT_NOW in other states.");
        Run x = Run.with(Rows.count(1, 40));
        x.refuses(TwoSlots.NOT_NOW, "confirm");
        x.due(9, "offer", 1);
        x.refuses(TwoSlots.NOT_NOW, "confirm");
        x.due(8, "block", 0, 0);
        x.refuses(TwoSlots.NOT_NOW, "confirm");
        x.fetch(1);
        x.refuses(TwoSlots.NOT_NOW, "confirm");
        x.due(TwoSlots.INSTALLING, "install", 1);
        x.refuses(TwoSlots.NOT_NOW, "confirm");
        x.due(TwoSlots.READY, "install", 1);
        x.refuses(TwoSlots.NOT_NOW, "confirm");
        x.due(1, "boot");
        x.due(0, "confirm");
        x.refuses(TwoSlots.NOT_NOW, "confirm");
        Run back = tryingWith(2);
        back.spoil(1);
        back.due(0, "boot");
        back.refuses(TwoSlots.NOT_NOW, "confirm");
    }
}

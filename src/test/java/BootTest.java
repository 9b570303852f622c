/** Promises 11 and 12: boot and confirm. */
public final class BootTest {
    public static void main(String[] args) {
        idleBoots();
        triesRunOut();
        confirmKeeps();
        confirmNotNow();
        fetchingGoesOn();
        installingBeginsAnew();
        readySpareSpoiled();
        tryingSpoiled();
        backToSpoiledOne();
        idleGoesToOther();
        fetchingEndsWithChange();
        deadWhenReady();
        deadWhenIdle();
        deadWhenFetching();
        deadWhenInstalling();
        aliveAgain();
        Due.end();
    }

    private static TwoSlots twoKept() {
        TwoSlots x = Due.with(Due.count(1, 5), Due.count(11, 6), Due.count(3, 40));
        Due.update(x, 1);
        Due.update(x, 2);
        Due.stateIs(x, "two kept", 0, 0, 0, 2, 1, 6, 5);
        return x;
    }

    private static void spoil(TwoSlots x, int slot) {
        Due.due("damage(" + slot + ", 0, 255)", x.damage(slot, 0, 255), 0);
        Due.due("sound(" + slot + ")", x.sound(slot), false);
    }

    private static void idleBoots() {
        TwoSlots x = twoKept();
        for (int i = 0; i < 4; i++) {
            Due.due("boot() when IDLE", x.boot(), 0);
            Due.stateIs(x, "IDLE", 0, 0, 0, 2, 1, 6, 5, 0, 0, 3, 0);
        }
    }

    private static void triesRunOut() {
        TwoSlots x = twoKept();
        Due.makeTrying(x, 1);
        for (int left = 2; left >= 0; left--) {
            Due.stateIs(x, "TRYING", 4, 1, left, 2, 1, 6, 5, 0, 0);
            Due.due("boot()", x.boot(), left == 0 ? 0 : 1);
        }
        Due.stateIs(x, "gone back", 0, 0, 0, 2, 1, 6, 5, 0, 0);
        Due.due("boot()", x.boot(), 0);
        Due.due("confirm()", x.confirm(), TwoSlots.NOT_NOW);
    }

    private static void confirmKeeps() {
        for (int boots = 0; boots <= 2; boots++) {
            TwoSlots x = twoKept();
            Due.makeTrying(x, 1);
            for (int i = 0; i < boots; i++) {
                Due.due("boot()", x.boot(), 1);
            }
            Due.due("confirm()", x.confirm(), 0);
            Due.stateIs(x, "kept", 0, 1, 0, 2, 1, 6, 5, 0, 0);
            for (int i = 0; i < 4; i++) {
                Due.due("boot() when kept", x.boot(), 1);
            }
        }
    }

    private static void confirmNotNow() {
        TwoSlots x = Due.with(Due.count(1, 40));
        Due.due("confirm() when IDLE", x.confirm(), TwoSlots.NOT_NOW);
        x.offer(1);
        Due.due("confirm() when FETCHING", x.confirm(), TwoSlots.NOT_NOW);
        Due.due("state(0)", x.state(0), TwoSlots.FETCHING);
        Due.fetch(x, 1);
        Due.due("confirm() when INSTALLING", x.confirm(), TwoSlots.NOT_NOW);
        Due.due("state(0)", x.state(0), TwoSlots.INSTALLING);
        x.install(2);
        Due.due("confirm() when READY", x.confirm(), TwoSlots.NOT_NOW);
        Due.due("state(0)", x.state(0), TwoSlots.READY);
        x.boot();
        Due.due("confirm() when TRYING", x.confirm(), 0);
        Due.due("confirm() again", x.confirm(), TwoSlots.NOT_NOW);
    }

    private static void fetchingGoesOn() {
        TwoSlots x = Due.with(Due.count(1, 12));
        x.offer(1);
        x.block(1, 0);
        Due.due("boot()", x.boot(), 0);
        Due.stateIs(x, "FETCHING", 1, 0, 0, 0, 0, 0, 0, 1, 1, 1, 0);
        Due.due("block(1, 0) again", x.block(1, 0), 2);
        Due.due("block(0, 0)", x.block(0, 0), 1);
        Due.due("block(2, 0)", x.block(2, 0), 0);
    }

    private static void installingBeginsAnew() {
        TwoSlots x = Due.with(Due.count(1, 40));
        Due.fetch(x, 1);
        Due.due("install(1)", x.install(1), TwoSlots.INSTALLING);
        Due.due("length", x.state(6), 31);
        Due.due("boot()", x.boot(), 0);
        Due.stateIs(x, "anew", 2, 0, 0, 0, 1, 0, 0, 1, 9, 1, 0);
        Due.due("install(1)", x.install(1), TwoSlots.INSTALLING);
        Due.due("install(1)", x.install(1), TwoSlots.READY);
        Due.slotIs(x, 1, Due.count(1, 40));
    }

    private static void readySpareSpoiled() {
        TwoSlots x = twoKept();
        Due.makeReady(x, 1);
        spoil(x, 1);
        Due.due("state(0)", x.state(0), TwoSlots.READY);
        Due.due("boot()", x.boot(), 0);
        Due.stateIs(x, "back at once", 0, 0, 0, 2, 1, 6, 5, 0, 0);
    }

    private static void tryingSpoiled() {
        TwoSlots x = twoKept();
        Due.makeTrying(x, 1);
        spoil(x, 1);
        Due.due("boot()", x.boot(), 0);
        Due.stateIs(x, "back", 0, 0, 0, 2, 1, 6, 5, 0, 0);
    }

    /** Without tries it goes back, finds that one spoiled, and stays where it was. */
    private static void backToSpoiledOne() {
        TwoSlots x = twoKept();
        Due.makeTrying(x, 1);
        spoil(x, 0);
        Due.due("boot()", x.boot(), 1);
        Due.due("boot()", x.boot(), 1);
        Due.stateIs(x, "no tries", 4, 1, 0);
        Due.due("boot()", x.boot(), 1);
        Due.stateIs(x, "there and back", 0, 1, 0, 2, 1, 6, 5, 0, 0);
    }

    private static void idleGoesToOther() {
        TwoSlots x = twoKept();
        spoil(x, 0);
        Due.due("state(1) before", x.state(1), 0);
        Due.due("boot()", x.boot(), 1);
        Due.stateIs(x, "the other", 0, 1, 0, 2, 1, 6, 5, 0, 0);
        Due.due("boot()", x.boot(), 1);
        TwoSlots y = Due.with(Due.row(1, 2));
        Due.update(y, 1);
        spoil(y, 1);
        // The empty slot with mark 0 is SOUND.
        Due.due("boot() to the empty one", y.boot(), 0);
        Due.due("offer(1) from 0", y.offer(1), 1);
    }

    private static void fetchingEndsWithChange() {
        TwoSlots x = twoKept();
        Due.due("offer(3)", x.offer(3) > 1, true);
        Due.due("block(0, 0)", x.block(0, 0) > 0, true);
        spoil(x, 0);
        Due.due("boot()", x.boot(), 1);
        Due.stateIs(x, "update dropped", 0, 1, 0, 2, 1, 6, 5, 0, 0, 3, 0);
        Due.due("block(1, 0)", x.block(1, 0), TwoSlots.REFUSED);
    }

    private static void deadWhenReady() {
        TwoSlots x = twoKept();
        Due.makeReady(x, 1);
        spoil(x, 0);
        spoil(x, 1);
        int[][] then = {{4, 1, 2}, {4, 1, 1}, {4, 1, 0}, {0, 0, 0}, {0, 0, 0}};
        for (int[] numbers : then) {
            Due.due("boot()", x.boot(), TwoSlots.DEAD);
            Due.stateIs(x, "dead", numbers);
            Due.due("state(7)", x.state(7), 0);
        }
    }

    private static void deadWhenIdle() {
        TwoSlots x = twoKept();
        spoil(x, 0);
        spoil(x, 1);
        Due.due("boot()", x.boot(), TwoSlots.DEAD);
        Due.stateIs(x, "dead", 0, 0, 0, 2, 1, 6, 5, 0, 0);
        Due.due("boot()", x.boot(), TwoSlots.DEAD);
    }

    private static void deadWhenFetching() {
        TwoSlots x = twoKept();
        int blocks = x.offer(3);
        x.block(2, 0);
        spoil(x, 0);
        spoil(x, 1);
        Due.due("boot()", x.boot(), TwoSlots.DEAD);
        Due.stateIs(x, "dead", 1, 0, 0, 2, 1, 6, 5, 3, 1);
        Due.due("block(0, 0)", x.block(0, 0), blocks - 2);
    }

    /** The document's boot begins an installation anew; that stands if it answers DEAD, too. */
    private static void deadWhenInstalling() {
        TwoSlots x = twoKept();
        Due.fetch(x, 3);
        int blocks = x.state(8);
        Due.due("install(1)", x.install(1), TwoSlots.INSTALLING);
        spoil(x, 0);
        Due.due("boot()", x.boot(), TwoSlots.DEAD);
        Due.stateIs(x, "dead", 2, 0, 0, 2, 3, 6, 0, 3, blocks);
        x.damage(0, 0, 11);
        Due.due("install(20)", x.install(20), TwoSlots.READY);
        Due.slotIs(x, 1, Due.count(3, 40));
    }

    private static void aliveAgain() {
        TwoSlots x = twoKept();
        spoil(x, 0);
        spoil(x, 1);
        Due.due("boot()", x.boot(), TwoSlots.DEAD);
        x.damage(1, 0, 1);
        Due.due("boot() with one mended", x.boot(), 1);
        x.damage(0, 0, 11);
        Due.due("boot() with both mended", x.boot(), 1);
    }
}

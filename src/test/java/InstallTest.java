/** Promise 10: install. */
public final class InstallTest {
    public static void main(String[] args) {
        pieceByPiece();
        numbersAndStates();
        spoiledSpareFails();
        copyIsTakenAsItIs();
        sameCheckIsGoodEnough();
        tryAgainBehindFailure();
        tenPieces();
        Due.end();
    }

    private static TwoSlots withPieces() {
        TwoSlots x = Due.with(Due.count(1, 10),
                Due.join(Due.row(90, 91), Due.count(3, 5), Due.row(92), Due.count(1, 4)));
        Due.update(x, 1);
        Due.patchIs(x, 2, 1, 2, 90, 91, 33, 2, 1, 92, 32, 0);
        return x;
    }

    private static void pieceByPiece() {
        TwoSlots x = withPieces();
        Due.fetch(x, 2);
        Due.due("install(1)", x.install(1), TwoSlots.INSTALLING);
        Due.slotIs(x, 0, 90, 91);
        Due.due("install(2)", x.install(2), TwoSlots.INSTALLING);
        Due.slotIs(x, 0, 90, 91, 3, 4, 5, 6, 7, 92);
        Due.due("sound(0) half way", x.sound(0), false);
        Due.due("install(1)", x.install(1), TwoSlots.READY);
        Due.slotIs(x, 0, 90, 91, 3, 4, 5, 6, 7, 92, 1, 2, 3, 4);
        Due.stateIs(x, "READY", 3, 1, 0, 2, 1, 12, 10, 2, 2, 2, 0);
        Due.due("sound(0)", x.sound(0), true);
    }

    private static void numbersAndStates() {
        TwoSlots x = Due.with(Due.count(1, 40));
        int[] bad = {0, -1, 21, Integer.MIN_VALUE, Integer.MAX_VALUE};
        installRefuses(x, bad, "IDLE");
        Due.due("install(1) when IDLE", x.install(1), TwoSlots.NOT_NOW);
        x.offer(1);
        installRefuses(x, bad, "FETCHING");
        Due.due("install(20) when FETCHING", x.install(20), TwoSlots.NOT_NOW);
        Due.fetch(x, 1);
        installRefuses(x, bad, "INSTALLING");
        Due.due("row behind refusals", x.state(6), 0);
        Due.due("install(20)", x.install(20), TwoSlots.READY);
        installRefuses(x, bad, "READY");
        Due.due("install(1) when READY", x.install(1), TwoSlots.NOT_NOW);
        x.boot();
        installRefuses(x, bad, "TRYING");
        Due.due("install(20) when TRYING", x.install(20), TwoSlots.NOT_NOW);
        Due.slotIs(x, 1, Due.count(1, 40));
    }

    private static void installRefuses(TwoSlots x, int[] bad, String when) {
        for (int n : bad) {
            Due.due("install(" + n + ") when " + when, x.install(n), TwoSlots.REFUSED);
        }
    }

    private static void spoiledSpareFails() {
        TwoSlots x = withPieces();
        Due.fetch(x, 2);
        x.install(1);
        Due.due("damage(0, 1, 0)", x.damage(0, 1, 0), 0);
        Due.due("install(20)", x.install(20), TwoSlots.IDLE);
        Due.stateIs(x, "failed", 0, 1, 0, 2, 1, 12, 10, 0, 0, 2, 0);
        Due.slotIs(x, 0, 90, 0, 3, 4, 5, 6, 7, 92, 1, 2, 3, 4);
        Due.due("sound(0)", x.sound(0), false);
        Due.due("boot()", x.boot(), 1);
        Due.due("state(0)", x.state(0), TwoSlots.IDLE);
    }

    private static void copyIsTakenAsItIs() {
        TwoSlots x = withPieces();
        Due.fetch(x, 2);
        Due.due("damage(1, 3, 77)", x.damage(1, 3, 77), 0);
        Due.due("install(2)", x.install(2), TwoSlots.INSTALLING);
        Due.slotIs(x, 0, 90, 91, 3, 77, 5, 6, 7);
        Due.due("damage(1, 3, 4)", x.damage(1, 3, 4), 0);
        Due.due("install(2)", x.install(2), TwoSlots.IDLE);
        Due.slotIs(x, 0, 90, 91, 3, 77, 5, 6, 7, 92, 1, 2, 3, 4);
    }

    /** One more, and 31 less on the next place, give the same CHECK. */
    private static void sameCheckIsGoodEnough() {
        TwoSlots x = Due.with(Due.row(10, 100, 30, 40), Due.row(10, 100, 30, 40, 50));
        Due.update(x, 1);
        x.damage(1, 0, 11);
        Due.due("sound(1) half changed", x.sound(1), false);
        x.damage(1, 1, 69);
        Due.due("sound(1) with the same CHECK", x.sound(1), true);
        Due.fetch(x, 2);
        Due.due("install(20)", x.install(20), TwoSlots.READY);
        Due.slotIs(x, 0, 11, 69, 30, 40, 50);
        Due.due("boot()", x.boot(), 0);
    }

    private static void tryAgainBehindFailure() {
        TwoSlots x = withPieces();
        Due.fetch(x, 2);
        x.damage(1, 2, 0);
        Due.due("install(20)", x.install(20), TwoSlots.IDLE);
        x.damage(1, 2, 3);
        Due.makeReady(x, 2);
        Due.slotIs(x, 0, 90, 91, 3, 4, 5, 6, 7, 92, 1, 2, 3, 4);
    }

    /** Ten copies of four bytes, the shortest ones that there are. */
    private static void tenPieces() {
        int[] old = Due.count(1, 40);
        int[] made = new int[0];
        for (int i = 9; i >= 0; i--) {
            made = Due.join(made, Due.count(1 + 4 * i, 4));
        }
        TwoSlots x = Due.with(old, made);
        Due.update(x, 1);
        Due.fetch(x, 2);
        for (int i = 1; i < 10; i++) {
            Due.due("install(1)", x.install(1), TwoSlots.INSTALLING);
            Due.due("state(5)", x.state(5), 4 * i);
        }
        Due.due("last install(1)", x.install(1), TwoSlots.READY);
        Due.slotIs(x, 0, made);
    }
}

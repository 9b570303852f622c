/** Promise 10: install, and what the terms say of INSTALLING a piece. */
public final class InstallTest {
    private static final int[] NO_COUNTS = {0, -1, 21, 22, -20, 256, Integer.MIN_VALUE,
        Integer.MAX_VALUE};

    public static void main(String[] args) {
        pieceByPiece();
        upToSoManyPieces();
        copiesAndLongLooseRowsAreOnePieceEach();
        installRefusesOtherCounts();
        installNotNow();
        soundIsReady();
        notSoundIsIdle();
        copyIsTakenAsItIs();
        sameCheckIsGoodEnough();
        tryAgainBehindFailure();
        Due.end();
    }

    /** Its patch has the pieces 90 91, a copy of 5, 92, a copy of 4. */
    private static Run withPieces() {
        Run x = Run.with(Rows.count(1, 10),
                Rows.join(Rows.row(90, 91), Rows.count(3, 5), Rows.row(92), Rows.count(1, 4)));
        x.update(1);
        x.patchIs(2, 1, 2, 90, 91, 33, 2, 1, 92, 32, 0);
        x.fetch(2);
        return x;
    }

    private static void pieceByPiece() {
        Due.sentence("Terms",
                "the next loose row or copy of the patch is put behind the SPARE's row");
        Run x = withPieces();
        x.slotIs(0);
        x.due(TwoSlots.INSTALLING, "install", 1);
        x.slotIs(0, 90, 91);
        x.due(TwoSlots.INSTALLING, "install", 2);
        x.slotIs(0, 90, 91, 3, 4, 5, 6, 7, 92);
        x.due(0, "sound", 0);
        x.stateIs(TwoSlots.INSTALLING, 1, 0, 2, 1, 8, 10, 2, 2, 2, 0);
        x.due(TwoSlots.READY, "install", 1);
        x.slotIs(0, 90, 91, 3, 4, 5, 6, 7, 92, 1, 2, 3, 4);
        x.slotIs(1, Rows.count(1, 10));
        x.stateIs(TwoSlots.READY, 1, 0, 2, 1, 12, 10, 2, 2, 2, 0);
        x.due(1, "sound", 0);
    }

    /** Eight times a loose byte and a copy of 4: no patch has more than these 16 pieces. */
    private static Run withSixteenPieces() {
        Run x = Run.with(Rows.count(1, 40));
        for (int i = 0; i < 8; i++) {
            x.due(5 * i + 1, "feed", 200 + i);
            x.due(5 * i + 5, "reuse", 1, 4 * i, 4);
        }
        x.due(2, "publish");
        x.due(32, "patch", 2, 1);
        x.update(1);
        x.fetch(2);
        return x;
    }

    private static int[] firstPieces(int many) {
        int[] row = {};
        for (int i = 0; i < many; i++) {
            int[] piece = i % 2 == 0 ? Rows.row(200 + i / 2) : Rows.count(1 + 2 * (i - 1), 4);
            row = Rows.join(row, piece);
        }
        return row;
    }

    private static void upToSoManyPieces() {
        Due.sentence("Promise 10: install", "INSTALLS up to n pieces, 1 .. 20 (else REFUSED): the"
                + " state then.");
        for (int n = 1; n <= 20; n++) {
            Run x = withSixteenPieces();
            x.due(n < 16 ? TwoSlots.INSTALLING : TwoSlots.READY, "install", n);
            x.slotIs(0, firstPieces(Math.min(n, 16)));
            if (n < 16) {
                x.due(n == 15 ? TwoSlots.READY : TwoSlots.INSTALLING, "install", 1);
                x.slotIs(0, firstPieces(n + 1));
            }
        }
    }

    private static void copiesAndLongLooseRowsAreOnePieceEach() {
        Due.sentence("Terms",
                "the next loose row or copy of the patch is put behind the SPARE's row");
        // 40 loose bytes are a piece of 31 and one of 9.
        Run x = Run.with(Rows.count(1, 40));
        x.fetch(1);
        x.due(TwoSlots.INSTALLING, "install", 1);
        x.slotIs(1, Rows.count(1, 31));
        x.due(TwoSlots.READY, "install", 1);
        x.slotIs(1, Rows.count(1, 40));
        x.due(1, "boot");
        x.due(0, "confirm");
        // A copy of 40 is one piece; so are the 31 loose bytes that look like copies.
        x.fetch(1);
        x.due(TwoSlots.READY, "install", 1);
        x.slotIs(0, Rows.count(1, 40));
        Run y = Run.with(Rows.count(32, 31));
        y.fetch(1);
        y.due(TwoSlots.READY, "install", 1);
        y.slotIs(1, Rows.count(32, 31));
    }

    private static void refusesAll(Run x) {
        for (int n : NO_COUNTS) {
            x.refuses(TwoSlots.REFUSED, "install", n);
        }
    }

    private static void installRefusesOtherCounts() {
        Due.sentence("Promise 10: install", "INSTALLS up to n pieces, 1 .. 20 (else REFUSED): the"
                + " state then.");
        Run x = Run.with(Rows.count(1, 40));
        refusesAll(x);
        x.due(9, "offer", 1);
        refusesAll(x);
        x.fetch(1);
        refusesAll(x);
        x.due(TwoSlots.INSTALLING, "install", 1);
        refusesAll(x);
        x.due(TwoSlots.READY, "install", 20);
        refusesAll(x);
        x.due(1, "boot");
        refusesAll(x);
        x.slotIs(1, Rows.count(1, 40));
    }

    private static void isNotNow(Run x) {
        x.refuses(TwoSlots.NOT_NOW, "install", 1);
        x.refuses(TwoSlots.NOT_NOW, "install", 20);
    }

    private static void installNotNow() {
        Due.sentence("Promise 10: install", "NOT_NOW if it is not INSTALLING.");
        Run x = Run.with(Rows.count(1, 9));
        isNotNow(x);
        x.due(2, "offer", 1);
        isNotNow(x);
        x.due(1, "block", 1, 0);
        isNotNow(x);
        x.due(0, "block", 0, 0);
        x.due(TwoSlots.READY, "install", 1);
        isNotNow(x);
        for (int i = 0; i < 3; i++) {
            x.due(1, "boot");
            isNotNow(x);
        }
        x.due(0, "boot");
        isNotNow(x);
    }

    private static void soundIsReady() {
        Due.sentence("Terms",
                "When the patch is done: the SPARE is SOUND: READY; else the device is"
                + " IDLE, the update has failed.");
        Run x = withPieces();
        x.due(TwoSlots.READY, "install", 4);
        x.due(TwoSlots.READY, "state", 0);
        // What was spoiled and has been mended before the end does no harm.
        Run y = withPieces();
        y.due(TwoSlots.INSTALLING, "install", 3);
        y.due(0, "damage", 0, 0, 0);
        y.due(0, "damage", 0, 0, 90);
        y.due(TwoSlots.READY, "install", 1);
    }

    private static void notSoundIsIdle() {
        Due.sentence("Terms",
                "When the patch is done: the SPARE is SOUND: READY; else the device is"
                + " IDLE, the update has failed.");
        Run x = withPieces();
        x.due(TwoSlots.INSTALLING, "install", 1);
        x.due(0, "damage", 0, 1, 0);
        // It is seen at the end only.
        x.due(TwoSlots.INSTALLING, "install", 2);
        x.due(TwoSlots.IDLE, "install", 20);
        x.stateIs(TwoSlots.IDLE, 1, 0, 2, 1, 12, 10, 0, 0, 2, 0);
        x.slotIs(0, 90, 0, 3, 4, 5, 6, 7, 92, 1, 2, 3, 4);
        x.due(0, "sound", 0);
        x.refuses(TwoSlots.NOT_NOW, "install", 1);
        x.refuses(TwoSlots.REFUSED, "block", 0, 0);
        x.due(1, "boot");
        x.due(TwoSlots.IDLE, "state", 0);
        // Mended, it is SOUND, but the update has failed all the same.
        x.due(0, "damage", 0, 1, 91);
        x.due(1, "sound", 0);
        x.due(1, "boot");
        x.due(TwoSlots.IDLE, "state", 0);
    }

    private static void copyIsTakenAsItIs() {
        Due.sentence("Terms", "the copy taken from the running slot as it is");
        Run x = withPieces();
        x.due(0, "damage", 1, 3, 77);
        x.due(TwoSlots.INSTALLING, "install", 2);
        x.slotIs(0, 90, 91, 3, 77, 5, 6, 7);
        x.due(0, "damage", 1, 3, 4);
        x.due(TwoSlots.IDLE, "install", 2);
        x.slotIs(0, 90, 91, 3, 77, 5, 6, 7, 92, 1, 2, 3, 4);
    }

    /** One more, and 31 less on the next place, give the same CHECK. */
    private static void sameCheckIsGoodEnough() {
        Due.sentence("Terms",
                "A slot is SOUND if its row has the length and the CHECK of its mark's"
                + " version.");
        Run x = Run.with(Rows.row(10, 100, 30, 40), Rows.row(10, 100, 30, 40, 50));
        x.update(1);
        x.due(0, "damage", 1, 0, 11);
        x.due(0, "sound", 1);
        x.due(0, "damage", 1, 1, 69);
        x.due(1, "sound", 1);
        x.fetch(2);
        x.due(TwoSlots.READY, "install", 20);
        x.slotIs(0, 11, 69, 30, 40, 50);
        x.due(0, "boot");
    }

    private static void tryAgainBehindFailure() {
        Due.sentence("Promise 8: offer",
                "begins, none of its blocks there: how many blocks it has.");
        Run x = withPieces();
        x.due(0, "damage", 1, 2, 0);
        x.due(TwoSlots.IDLE, "install", 20);
        x.due(0, "damage", 1, 2, 3);
        x.makeReady(2);
        x.slotIs(0, 90, 91, 3, 4, 5, 6, 7, 92, 1, 2, 3, 4);
    }
}

/** Promises 1 to 4: a new object, feed, reuse, publish. */
public final class ShopTest {
    private static final int LEAST = Integer.MIN_VALUE;
    private static final int MOST = Integer.MAX_VALUE;
    private static final int[] NO_BYTES = {-1, 256, -256, 257, 511, 65536, LEAST, MOST};

    public static void main(String[] args) {
        newObject();
        newDevice();
        objectsStandAlone();
        feedAppends();
        feedRefusesWhatIsNoByte();
        feedIsFullWith40();
        reuseAppends();
        reuseRefusesOtherVersions();
        reuseRefusesOtherPlaces();
        reuseRefusesMoreThanThereIs();
        reuseRefusesSumsThatWrap();
        reuseRefusesNumbersBelow1();
        reuseIsFullBeyond40();
        publishNumbers();
        publishRefusesAnEmptyDraft();
        publishIsFullWith6();
        versionsAreOfOneTo40Bytes();
        versionZeroIsEmpty();
        versionsStay();
        Due.end();
    }

    private static void newObject() {
        Due.sentence("Promise 1: A new object",
                "makes an object in the state that the terms give.");
        Run x = new Run();
        x.stateIs(TwoSlots.IDLE, 0, 0, 0, 0, 0, 0, 0, 0, 0, 0, TwoSlots.REFUSED);
        x.refuses(TwoSlots.REFUSED, "patch", 1, 0);
        x.refuses(TwoSlots.REFUSED, "offer", 1);
        x.refuses(TwoSlots.REFUSED, "reuse", 1, 0, 1);
        x.refuses(TwoSlots.REFUSED, "publish");
        x.refuses(TwoSlots.NOT_NOW, "confirm");
        x.due(1, "feed", 9);
    }

    private static void newDevice() {
        Due.sentence("Terms", "0 at first, both empty.");
        Run x = new Run();
        x.slotIs(0);
        x.slotIs(1);
        x.due(1, "sound", 0);
        x.due(1, "sound", 1);
        Due.sentence("Terms", "One slot RUNS, 0 at first; the other one is the SPARE.");
        x.due(0, "boot");
        x.stateIs(TwoSlots.IDLE, 0, 0, 0, 0, 0, 0, 0, 0, 0, 0);
        Run y = Run.with(Rows.row(1, 2));
        y.fetch(1);
        y.stateIs(TwoSlots.INSTALLING, 0, 0, 0, 1);
    }

    private static void objectsStandAlone() {
        Due.sentence("Promise 1: A new object",
                "makes an object in the state that the terms give.");
        Run x = Run.with(Rows.row(1, 2));
        Run y = new Run();
        x.makeTrying(1);
        x.due(1, "feed", 3);
        y.stateIs(0, 0, 0, 0, 0, 0, 0, 0, 0, 0, 0);
    }

    private static void feedAppends() {
        Due.sentence("Promise 2: feed",
                "Appends a byte (else REFUSED) to the draft: how many it has.");
        Run x = new Run();
        int[] bytes = {0, 255, 28, 1, 254, 0, 127, 128};
        for (int i = 0; i < bytes.length; i++) {
            x.due(i + 1, "feed", bytes[i]);
            x.due(i + 1, "state", 10);
        }
        x.due(1, "publish");
        x.patchIs(1, 0, Rows.join(Rows.row(8), bytes));
    }

    private static void feedRefusesWhatIsNoByte() {
        Due.sentence("Terms", "BYTES are 0 .. 255.");
        new Run().due(1, "feed", 0);
        new Run().due(1, "feed", 255);
        Due.sentence("Promise 2: feed",
                "Appends a byte (else REFUSED) to the draft: how many it has.");
        for (int b : NO_BYTES) {
            new Run().refuses(TwoSlots.REFUSED, "feed", b);
            Run begun = new Run();
            begun.due(1, "feed", 7);
            begun.refuses(TwoSlots.REFUSED, "feed", b);
            begun.due(2, "feed", 8);
            begun.due(1, "publish");
            begun.patchIs(1, 0, 2, 7, 8);
            Run full = draftOf(40);
            full.refuses(TwoSlots.REFUSED, "feed", b);
        }
    }

    private static Run draftOf(int many) {
        Run x = new Run();
        for (int i = 1; i <= many; i++) {
            x.due(i, "feed", i);
        }
        return x;
    }

    private static void feedIsFullWith40() {
        Due.sentence("Promise 2: feed", "FULL with 40.");
        Run x = draftOf(39);
        x.due(40, "feed", 255);
        x.refuses(TwoSlots.FULL, "feed", 0);
        x.refuses(TwoSlots.FULL, "feed", 255);
        x.due(40, "state", 10);
        x.due(1, "publish");
        x.due(40 + 2, "patch", 1, 0);
        x.due(255, "patchByte", 1, 0, 41);
        x.due(1, "feed", 1);
        Run y = draftOf(20);
        y.due(1, "publish");
        y.due(20, "reuse", 1, 0, 20);
        y.due(40, "reuse", 1, 0, 20);
        y.refuses(TwoSlots.FULL, "feed", 1);
    }

    private static void reuseAppends() {
        Due.sentence("Promise 3: reuse",
                "Appends n bytes of a version from a place on to the draft: how many it has.");
        Run x = Run.with(Rows.row(10, 11, 12, 13, 14), Rows.row(20, 21));
        x.due(3, "reuse", 1, 1, 3);
        x.due(5, "reuse", 2, 0, 2);
        x.due(6, "reuse", 1, 4, 1);
        x.due(7, "feed", 99);
        x.due(12, "reuse", 1, 0, 5);
        x.due(12, "state", 10);
        x.due(3, "publish");
        x.patchIs(3, 0, 12, 11, 12, 13, 20, 21, 14, 99, 10, 11, 12, 13, 14);
        x.due(1, "reuse", 3, 11, 1);
    }

    private static Run threeBytes() {
        Run x = Run.with(Rows.row(10, 11, 12));
        x.due(1, "feed", 5);
        return x;
    }

    private static void reuseRefusesOtherVersions() {
        Due.sentence("Promise 3: reuse", "REFUSED if these are not all there");
        int[] none = {0, 2, -1, 6, 7, LEAST, MOST};
        for (int version : none) {
            threeBytes().refuses(TwoSlots.REFUSED, "reuse", version, 0, 1);
        }
        threeBytes().due(2, "reuse", 1, 0, 1);
        Run six = Run.withSix();
        six.refuses(TwoSlots.REFUSED, "reuse", 7, 0, 1);
        six.due(1, "reuse", 6, 0, 1);
    }

    private static void reuseRefusesOtherPlaces() {
        Due.sentence("Promise 3: reuse", "REFUSED if these are not all there");
        threeBytes().due(2, "reuse", 1, 0, 1);
        threeBytes().due(2, "reuse", 1, 2, 1);
        int[] none = {-1, 3, 4, 40, LEAST, MOST};
        for (int place : none) {
            threeBytes().refuses(TwoSlots.REFUSED, "reuse", 1, place, 1);
        }
        // From a place before the row, as many as would reach into it.
        threeBytes().refuses(TwoSlots.REFUSED, "reuse", 1, -1, 2);
        threeBytes().refuses(TwoSlots.REFUSED, "reuse", 1, -1, 4);
        threeBytes().refuses(TwoSlots.REFUSED, "reuse", 1, -3, 3);
    }

    private static void reuseRefusesMoreThanThereIs() {
        Due.sentence("Promise 3: reuse", "REFUSED if these are not all there");
        for (int place = 0; place < 3; place++) {
            threeBytes().due(4 - place, "reuse", 1, place, 3 - place);
            threeBytes().refuses(TwoSlots.REFUSED, "reuse", 1, place, 4 - place);
        }
        threeBytes().refuses(TwoSlots.REFUSED, "reuse", 1, 0, 40);
        threeBytes().refuses(TwoSlots.REFUSED, "reuse", 1, 0, 41);
        // The last byte of the longest row, and one more.
        Run x = Run.with(Rows.count(1, 40));
        x.refuses(TwoSlots.REFUSED, "reuse", 1, 0, 41);
        x.refuses(TwoSlots.REFUSED, "reuse", 1, 39, 2);
        x.refuses(TwoSlots.REFUSED, "reuse", 1, 40, 1);
        x.due(1, "reuse", 1, 39, 1);
    }

    private static void reuseRefusesSumsThatWrap() {
        Due.sentence("Promise 3: reuse", "REFUSED if these are not all there");
        int[][] wrapping = {{1, MOST}, {2, MOST}, {MOST, 1}, {MOST, 2}, {MOST, 3}, {MOST, MOST},
            {MOST - 1, 3}, {LEAST, MOST}, {LEAST, LEAST}, {LEAST + 1, MOST}, {0, MOST},
            {3, MOST - 2}, {1 << 30, 1 << 30}, {MOST, LEAST}};
        for (int[] w : wrapping) {
            threeBytes().refuses(TwoSlots.REFUSED, "reuse", 1, w[0], w[1]);
            threeBytes().refuses(TwoSlots.REFUSED, "reuse", 0, w[0], w[1]);
        }
        // With a full draft, too: the draft's length and n must not wrap around either.
        Run full = Run.with(Rows.count(1, 20));
        full.due(20, "reuse", 1, 0, 20);
        full.due(40, "reuse", 1, 0, 20);
        full.refuses(TwoSlots.REFUSED, "reuse", 1, 0, MOST);
        full.refuses(TwoSlots.REFUSED, "reuse", 1, 1, MOST);
    }

    private static void reuseRefusesNumbersBelow1() {
        Due.sentence("Promise 3: reuse", "or n is below 1");
        threeBytes().due(2, "reuse", 1, 0, 1);
        int[] below = {0, -1, -40, LEAST};
        for (int n : below) {
            threeBytes().refuses(TwoSlots.REFUSED, "reuse", 1, 0, n);
            threeBytes().refuses(TwoSlots.REFUSED, "reuse", 1, 2, n);
            threeBytes().refuses(TwoSlots.REFUSED, "reuse", 1, 3, n);
            threeBytes().refuses(TwoSlots.REFUSED, "reuse", 0, 0, n);
        }
    }

    private static void reuseIsFullBeyond40() {
        Due.sentence("Promise 3: reuse", "FULL if there would be more than 40.");
        Run x = Run.with(Rows.count(0, 30));
        x.due(30, "reuse", 1, 0, 30);
        x.refuses(TwoSlots.FULL, "reuse", 1, 0, 11);
        x.refuses(TwoSlots.FULL, "reuse", 1, 0, 30);
        x.refuses(TwoSlots.REFUSED, "reuse", 1, 20, 11);
        x.due(40, "reuse", 1, 5, 10);
        x.refuses(TwoSlots.FULL, "reuse", 1, 0, 1);
        x.refuses(TwoSlots.FULL, "reuse", 1, 29, 1);
        x.refuses(TwoSlots.REFUSED, "reuse", 1, 30, 1);
        x.refuses(TwoSlots.REFUSED, "reuse", 1, 0, 0);
        Run y = Run.with(Rows.count(0, 39));
        y.due(39, "reuse", 1, 0, 39);
        y.refuses(TwoSlots.FULL, "reuse", 1, 0, 2);
        y.due(40, "reuse", 1, 38, 1);
        Run whole = Run.with(Rows.count(0, 40));
        whole.due(40, "reuse", 1, 0, 40);
        whole.refuses(TwoSlots.FULL, "reuse", 1, 0, 40);
    }

    private static void publishNumbers() {
        Due.sentence("Promise 4: publish",
                "The draft becomes a version, and is empty: its number.");
        Run x = new Run();
        for (int i = 1; i <= 6; i++) {
            x.due(1, "feed", i);
            x.due(2, "feed", 10 * i);
            x.due(i, "publish");
            x.due(i, "state", 9);
            x.due(0, "state", 10);
        }
        for (int i = 1; i <= 6; i++) {
            x.patchIs(i, 0, 2, i, 10 * i);
        }
    }

    private static void publishRefusesAnEmptyDraft() {
        Due.sentence("Promise 4: publish", "REFUSED if it is empty");
        Run x = new Run();
        for (int i = 1; i <= 6; i++) {
            x.refuses(TwoSlots.REFUSED, "publish");
            x.due(1, "feed", i);
            x.due(i, "publish");
        }
        // Empty, and 6 versions: the document names the empty draft first.
        x.refuses(TwoSlots.REFUSED, "publish");
        x.due(6, "state", 9);
    }

    private static void publishIsFullWith6() {
        Due.sentence("Promise 4: publish", "FULL with 6 versions.");
        Run x = Run.with(Rows.row(1, 1), Rows.row(2, 2), Rows.row(3), Rows.row(4), Rows.row(5));
        x.due(1, "feed", 6);
        x.due(6, "publish");
        x.due(1, "feed", 9);
        x.refuses(TwoSlots.FULL, "publish");
        x.stateIs(0, 0, 0, 0, 0, 0, 0, 0, 0, 6, 1);
        x.due(2, "feed", 9);
        x.refuses(TwoSlots.FULL, "publish");
        x.refuses(TwoSlots.REFUSED, "patch", 7, 0);
        x.patchIs(6, 0, 1, 6);
    }

    private static void versionsAreOfOneTo40Bytes() {
        Due.sentence("Terms",
                "VERSIONS 1 .. 6 are rows of 1 .. 40 bytes; version 0 is the empty row.");
        Run x = draftOf(40);
        x.refuses(TwoSlots.FULL, "feed", 41);
        x.due(1, "publish");
        x.refuses(TwoSlots.REFUSED, "publish");
        x.due(1, "feed", 200);
        x.due(2, "publish");
        x.patchIs(1, 0, Rows.join(Rows.row(31), Rows.count(1, 31), Rows.row(9), Rows.count(32, 9)));
        x.patchIs(2, 0, 1, 200);
        x.update(1);
        x.slotIs(1, Rows.count(1, 40));
        x.update(2);
        x.slotIs(0, 200);
    }

    private static void versionZeroIsEmpty() {
        Due.sentence("Terms",
                "VERSIONS 1 .. 6 are rows of 1 .. 40 bytes; version 0 is the empty row.");
        Run x = threeBytes();
        x.refuses(TwoSlots.REFUSED, "reuse", 0, 0, 1);
        x.refuses(TwoSlots.REFUSED, "offer", 0);
        x.refuses(TwoSlots.REFUSED, "patch", 0, 0);
        x.due(4, "patch", 1, 0);
        x.due(0, "saved", 1, 0);
        x.due(1, "sound", 0);
    }

    private static void versionsStay() {
        Due.sentence("Promise 4: publish",
                "The draft becomes a version, and is empty: its number.");
        Run x = Run.with(Rows.row(1, 2, 3));
        x.due(1, "feed", 9);
        x.due(2, "feed", 8);
        x.patchIs(1, 0, 3, 1, 2, 3);
        x.due(2, "publish");
        x.patchIs(1, 0, 3, 1, 2, 3);
        x.patchIs(2, 0, 2, 9, 8);
        x.update(1);
        x.due(0, "damage", 1, 0, 77);
        x.patchIs(1, 0, 3, 1, 2, 3);
    }
}

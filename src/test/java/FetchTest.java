/** Promises 8 and 9: offer and block, and what the terms say of an update that is FETCHING. */
public final class FetchTest {
    private static final int LEAST = Integer.MIN_VALUE;
    private static final int MOST = Integer.MAX_VALUE;

    public static void main(String[] args) {
        blocksAreOfFiveBytes();
        lastBlockIsWhatIsLeft();
        offerBegins();
        offerRefuses();
        offerNotNow();
        offerDropsFetching();
        offerDropsInstalling();
        offerIsFromWhatRuns();
        blocksInAnyOrder();
        blockMayComeAgain();
        blockRefusesOtherNumbers();
        blockRefusesOtherNoises();
        blockWithoutUpdate();
        blockNotNow();
        blockSpoiled();
        lastBlockSpoiled();
        lastBlockEmptiesSpare();
        Due.end();
    }

    /** A row of n loose bytes makes a patch of n + 1 bytes, one of more than 31 of n + 2. */
    private static void blocksAreOfFiveBytes() {
        Due.sentence("Terms", "BLOCKS of a patch are 5 bytes each, the last one what is left.");
        int[][] sizes = {{1, 1}, {3, 1}, {4, 1}, {5, 2}, {8, 2}, {9, 2}, {10, 3}, {14, 3}, {15, 4},
            {19, 4}, {20, 5}, {24, 5}, {25, 6}, {29, 6}, {30, 7}, {31, 7}, {32, 7}, {33, 7},
            {34, 8}, {38, 8}, {39, 9}, {40, 9}};
        for (int[] size : sizes) {
            Run x = Run.with(Rows.count(1, size[0]));
            x.due(size[1], "offer", 1);
            x.refuses(TwoSlots.REFUSED, "block", size[1], 0);
            x.due(size[1] - 1, "block", size[1] - 1, 0);
        }
        Run y = Run.with(Rows.count(1, 40));
        y.update(1);
        y.due(1, "offer", 1);
    }

    private static void lastBlockIsWhatIsLeft() {
        Due.sentence("Terms", "BLOCKS of a patch are 5 bytes each, the last one what is left.");
        int[] lengths = {1, 4, 5, 9, 10, 31, 32, 40};
        for (int length : lengths) {
            Run x = Run.with(Rows.count(1, length));
            int blocks = x.call("offer", 1);
            // Backwards, so that the last one, of 1 to 5 bytes, comes first.
            for (int i = blocks - 1; i >= 0; i--) {
                x.due(i, "block", i, 0);
            }
            x.due(TwoSlots.READY, "install", 2);
            x.slotIs(1, Rows.count(1, length));
        }
    }

    private static void offerBegins() {
        Due.sentence("Promise 8: offer",
                "begins, none of its blocks there: how many blocks it has.");
        Run x = Run.with(Rows.count(1, 12), Rows.row(5));
        x.due(3, "offer", 1);
        x.stateIs(TwoSlots.FETCHING, 0, 0, 0, 0, 0, 0, 1, 0, 2, 0);
        x.due(2, "block", 0, 0);
    }

    private static void offerRefuses() {
        Due.sentence("Promise 8: offer", "(1 to their number; else REFUSED)");
        int[] none = {0, -1, 3, 4, 6, 7, LEAST, MOST};
        for (int version : none) {
            Run x = Run.with(Rows.row(1), Rows.row(2));
            x.refuses(TwoSlots.REFUSED, "offer", version);
            // An update under way is not dropped by a refused one.
            x.due(1, "offer", 2);
            x.refuses(TwoSlots.REFUSED, "offer", version);
            x.due(0, "block", 0, 0);
            x.refuses(TwoSlots.REFUSED, "offer", version);
            x.due(TwoSlots.READY, "install", 1);
            x.refuses(TwoSlots.REFUSED, "offer", version);
            x.due(1, "boot");
            x.refuses(TwoSlots.REFUSED, "offer", version);
        }
        Run.with(Rows.row(1), Rows.row(2)).due(1, "offer", 1);
        Run.with(Rows.row(1), Rows.row(2)).due(1, "offer", 2);
        new Run().refuses(TwoSlots.REFUSED, "offer", 1);
        Run six = Run.withSix();
        six.refuses(TwoSlots.REFUSED, "offer", 7);
        six.due(1, "offer", 6);
        six.due(6, "state", 7);
    }

    private static void offerNotNow() {
        Due.sentence("Promise 8: offer", "NOT_NOW if the device is READY or TRYING");
        Run x = Run.with(Rows.row(1), Rows.row(2));
        x.makeReady(1);
        x.refuses(TwoSlots.NOT_NOW, "offer", 1);
        x.refuses(TwoSlots.NOT_NOW, "offer", 2);
        x.stateIs(TwoSlots.READY, 0, 0, 0, 1, 0, 1, 1, 1, 2, 0);
        for (int left = 2; left >= 0; left--) {
            x.due(1, "boot");
            x.refuses(TwoSlots.NOT_NOW, "offer", 1);
            x.refuses(TwoSlots.NOT_NOW, "offer", 2);
            x.stateIs(TwoSlots.TRYING, 1, left, 0, 1, 0, 1, 0, 0, 2, 0);
        }
        x.due(0, "confirm");
        x.due(1, "offer", 2);
    }

    private static void offerDropsFetching() {
        Due.sentence("Promise 8: offer", "an update under way is dropped.");
        Run x = Run.with(Rows.count(1, 9), Rows.count(50, 10));
        x.due(2, "offer", 1);
        x.due(1, "block", 1, 0);
        x.due(3, "offer", 2);
        x.stateIs(TwoSlots.FETCHING, 0, 0, 0, 0, 0, 0, 2, 0, 2, 0);
        x.due(2, "block", 1, 0);
        x.due(3, "offer", 2);
        x.due(0, "state", 8);
        x.due(2, "block", 1, 0);
        x.due(2, "offer", 1);
        x.refuses(TwoSlots.REFUSED, "block", 2, 0);
        x.due(1, "block", 1, 0);
        x.due(0, "block", 0, 0);
        x.due(TwoSlots.READY, "install", 1);
        x.slotIs(1, Rows.count(1, 9));
    }

    private static void offerDropsInstalling() {
        Due.sentence("Promise 8: offer", "an update under way is dropped.");
        Run x = Run.with(Rows.count(1, 40), Rows.row(7, 8));
        x.fetch(1);
        x.due(TwoSlots.INSTALLING, "install", 1);
        x.due(1, "offer", 2);
        // Until its blocks are there, the update leaves the spare slot alone.
        x.stateIs(TwoSlots.FETCHING, 0, 0, 0, 1, 0, 31, 2, 0, 2, 0);
        x.due(0, "sound", 1);
        x.refuses(TwoSlots.NOT_NOW, "install", 1);
        x.due(0, "block", 0, 0);
        x.stateIs(TwoSlots.INSTALLING, 0, 0, 0, 2, 0, 0, 2, 1, 2, 0);
        x.due(TwoSlots.READY, "install", 1);
        x.slotIs(1, 7, 8);
    }

    private static void offerIsFromWhatRuns() {
        Due.sentence("Terms", "An UPDATE is to a version, with the patch from the version that the"
                + " running slot is marked with.");
        Run x = Run.with(Rows.count(1, 20), Rows.count(3, 18), Rows.count(60, 20));
        x.due(4, "offer", 2);
        x.update(1);
        x.due(1, "offer", 2);
        x.due(1, "offer", 1);
        x.due(5, "offer", 3);
        x.update(3);
        x.due(4, "offer", 2);
        x.due(1, "offer", 3);
        // The spare's mark is 1 still; it has no say.
        x.stateIs(TwoSlots.FETCHING, 0, 0, 3, 1);
        // A row that is no more what its mark says counts by its mark.
        x.spoil(0);
        x.due(1, "offer", 3);
        x.due(4, "offer", 2);
    }

    private static void blocksInAnyOrder() {
        Due.sentence("Promise 9: block",
                "Else how many blocks are missing still (0: it is INSTALLING).");
        int[][] orders = {{0, 1, 2}, {0, 2, 1}, {1, 0, 2}, {1, 2, 0}, {2, 0, 1}, {2, 1, 0}};
        for (int[] order : orders) {
            Run x = Run.with(Rows.count(1, 12));
            x.due(3, "offer", 1);
            for (int i = 0; i < 3; i++) {
                x.stateIs(TwoSlots.FETCHING, 0, 0, 0, 0, 0, 0, 1, i);
                x.due(2 - i, "block", order[i], 0);
            }
            x.stateIs(TwoSlots.INSTALLING, 0, 0, 0, 1, 0, 0, 1, 3, 1, 0);
            x.due(TwoSlots.READY, "install", 1);
            x.slotIs(1, Rows.count(1, 12));
        }
    }

    private static void blockMayComeAgain() {
        Due.sentence("Promise 9: block", "A block may come again.");
        Run x = Run.with(Rows.count(1, 12));
        x.due(3, "offer", 1);
        x.due(2, "block", 2, 0);
        x.due(2, "block", 2, 0);
        x.due(1, "state", 8);
        x.due(1, "block", 0, 0);
        x.due(1, "block", 2, 0);
        x.due(1, "block", 0, 0);
        x.due(2, "state", 8);
        x.due(TwoSlots.FETCHING, "state", 0);
        x.due(0, "block", 1, 0);
    }

    private static Run fetchingTwo() {
        Run x = Run.with(Rows.count(1, 9));
        x.due(2, "offer", 1);
        return x;
    }

    private static void blockRefusesOtherNumbers() {
        Due.sentence("Promise 9: block", "REFUSED for numbers out of range, or no such block");
        fetchingTwo().due(1, "block", 0, 0);
        fetchingTwo().due(1, "block", 1, 0);
        // 858993459 * 5 and its neighbours wrap around to small numbers.
        int[] none = {-1, 2, 3, 8, 9, 10, -5, 858993459, 858993460, 1717986919, LEAST, MOST};
        for (int i : none) {
            fetchingTwo().refuses(TwoSlots.REFUSED, "block", i, 0);
            fetchingTwo().refuses(TwoSlots.REFUSED, "block", i, 1);
            fetchingTwo().refuses(TwoSlots.REFUSED, "block", i, 256);
        }
        Run most = Run.with(Rows.count(1, 40));
        most.due(9, "offer", 1);
        most.refuses(TwoSlots.REFUSED, "block", 9, 0);
        most.due(8, "block", 8, 0);
    }

    private static void blockRefusesOtherNoises() {
        Due.sentence("Promise 9: block", "its first byte xored with noise, 0 .. 255");
        int[] none = {-1, 256, 257, 512, -256, 65536, LEAST, MOST};
        for (int noise : none) {
            fetchingTwo().refuses(TwoSlots.REFUSED, "block", 0, noise);
            fetchingTwo().refuses(TwoSlots.REFUSED, "block", 1, noise);
        }
        fetchingTwo().due(1, "block", 0, 0);
        fetchingTwo().refuses(TwoSlots.SPOILED, "block", 0, 255);
    }

    private static void blockWithoutUpdate() {
        Due.sentence("Promise 9: block", "(there is none without an update under way)");
        Run x = Run.with(Rows.row(1, 2, 3), Rows.row(4, 5, 6, 7, 8, 9));
        noBlocks(x);
        x.makeTrying(1);
        noBlocks(x);
        x.due(1, "boot");
        noBlocks(x);
        x.due(0, "confirm");
        noBlocks(x);
        x.fetch(2);
        x.spoil(1);
        x.due(TwoSlots.DEAD, "boot");
        x.mend(1);
        x.due(TwoSlots.READY, "install", 20);
        x.due(0, "boot");
        for (int i = 0; i < 2; i++) {
            x.due(0, "boot");
        }
        // The tries have run out: IDLE, and the update that was is gone.
        x.due(1, "boot");
        noBlocks(x);
        Run failed = Run.with(Rows.count(1, 40));
        failed.fetch(1);
        failed.due(TwoSlots.INSTALLING, "install", 1);
        failed.spoil(1);
        failed.due(TwoSlots.IDLE, "install", 1);
        noBlocks(failed);
    }

    private static void noBlocks(Run x) {
        x.refuses(TwoSlots.REFUSED, "block", 0, 0);
        x.refuses(TwoSlots.REFUSED, "block", 0, 1);
        x.refuses(TwoSlots.REFUSED, "block", 1, 0);
    }

    private static void blockNotNow() {
        Due.sentence("Promise 9: block", "NOT_NOW if it is not FETCHING");
        Run x = Run.with(Rows.count(1, 9));
        x.fetch(1);
        blockIsNotNow(x);
        x.due(TwoSlots.READY, "install", 1);
        blockIsNotNow(x);
    }

    private static void blockIsNotNow(Run x) {
        x.refuses(TwoSlots.NOT_NOW, "block", 0, 0);
        x.refuses(TwoSlots.NOT_NOW, "block", 1, 0);
        x.refuses(TwoSlots.NOT_NOW, "block", 1, 1);
        x.refuses(TwoSlots.NOT_NOW, "block", 0, 255);
        x.refuses(TwoSlots.REFUSED, "block", 2, 0);
        x.refuses(TwoSlots.REFUSED, "block", -1, 0);
        x.refuses(TwoSlots.REFUSED, "block", 0, 256);
        x.refuses(TwoSlots.REFUSED, "block", 0, -1);
    }

    private static void blockSpoiled() {
        Due.sentence("Promise 9: block", "SPOILED with a noise that is not 0 (the device knows the"
                + " CHECK of each block).");
        for (int noise = 1; noise <= 255; noise++) {
            fetchingTwo().refuses(TwoSlots.SPOILED, "block", 0, noise);
            fetchingTwo().refuses(TwoSlots.SPOILED, "block", 1, noise);
        }
        Run x = fetchingTwo();
        x.due(1, "block", 0, 0);
        // It is there, and stays there; a spoiled one again is spoiled all the same.
        x.refuses(TwoSlots.SPOILED, "block", 0, 255);
        x.refuses(TwoSlots.SPOILED, "block", 0, 1);
        x.due(1, "state", 8);
    }

    private static void lastBlockSpoiled() {
        Due.sentence("Promise 9: block", "SPOILED with a noise that is not 0 (the device knows the"
                + " CHECK of each block).");
        Run x = fetchingTwo();
        x.due(1, "block", 1, 0);
        x.refuses(TwoSlots.SPOILED, "block", 0, 1);
        x.stateIs(TwoSlots.FETCHING, 0, 0, 0, 0, 0, 0, 1, 1);
        x.due(0, "block", 0, 0);
        // A last block of a single byte.
        Run y = Run.with(Rows.count(1, 5));
        y.due(2, "offer", 1);
        y.refuses(TwoSlots.SPOILED, "block", 1, 1);
        y.refuses(TwoSlots.SPOILED, "block", 1, 255);
        y.due(1, "block", 1, 0);
    }

    private static void lastBlockEmptiesSpare() {
        Due.sentence("Terms",
                "When all are there, it is INSTALLING with the patch's first byte next,"
                + " and the SPARE is empty, marked with the update's version.");
        Run x = Run.with(Rows.row(1, 2, 3), Rows.row(4, 5, 6), Rows.row(7, 8, 9, 10, 11));
        x.update(1);
        x.update(2);
        x.stateIs(TwoSlots.IDLE, 0, 0, 2, 1, 3, 3);
        x.due(2, "offer", 3);
        x.due(1, "block", 0, 0);
        x.stateIs(TwoSlots.FETCHING, 0, 0, 2, 1, 3, 3, 3, 1);
        x.slotIs(1, 1, 2, 3);
        x.due(0, "block", 1, 0);
        x.stateIs(TwoSlots.INSTALLING, 0, 0, 2, 3, 3, 0, 3, 2);
        x.due(0, "sound", 1);
        x.due(1, "sound", 0);
        x.due(TwoSlots.READY, "install", 1);
        x.slotIs(1, 7, 8, 9, 10, 11);
        x.slotIs(0, 4, 5, 6);
    }
}

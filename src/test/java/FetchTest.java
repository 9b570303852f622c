/** Promises 8 and 9: offer and block. */
public final class FetchTest {
    public static void main(String[] args) {
        offerCountsBlocks();
        offerRefuses();
        offerNotNow();
        offerDropsFetching();
        offerDropsInstalling();
        offerIsFromWhatRuns();
        blocksInAnyOrder();
        blockRefuses();
        blockWithoutUpdate();
        blockNotNow();
        blockSpoiled();
        lastBlockEmptiesSpare();
        Due.end();
    }

    private static void offerCountsBlocks() {
        int[][] sizes = {{1, 1}, {4, 1}, {5, 2}, {9, 2}, {10, 3}, {31, 7}, {32, 7}, {33, 7}, {34, 8},
            {38, 8}, {39, 9}, {40, 9}};
        for (int[] size : sizes) {
            TwoSlots x = Due.with(Due.count(1, size[0]));
            Due.due("offer of " + size[0] + " loose bytes", x.offer(1), size[1]);
            Due.stateIs(x, "offered", 1, 0, 0, 0, 0, 0, 0, 1, 0, 1, 0);
        }
    }

    private static void offerRefuses() {
        TwoSlots x = Due.with(Due.row(1), Due.row(2));
        int[] bad = {0, -1, 3, 6, 7, Integer.MIN_VALUE, Integer.MAX_VALUE};
        for (int version : bad) {
            Due.due("offer(" + version + ")", x.offer(version), TwoSlots.REFUSED);
        }
        Due.due("state(0)", x.state(0), TwoSlots.IDLE);
        Due.due("offer(2)", x.offer(2), 1);
        Due.due("offer(3)", x.offer(3), TwoSlots.REFUSED);
        Due.due("state(7)", x.state(7), 2);
    }

    private static void offerNotNow() {
        TwoSlots x = Due.with(Due.row(1), Due.row(2));
        Due.makeReady(x, 1);
        Due.due("offer(2) when READY", x.offer(2), TwoSlots.NOT_NOW);
        Due.due("offer(3) when READY", x.offer(3), TwoSlots.REFUSED);
        Due.due("offer(0) when READY", x.offer(0), TwoSlots.REFUSED);
        Due.stateIs(x, "READY", 3, 0, 0, 0, 1, 0, 1, 1, 1, 2, 0);
        x.boot();
        Due.due("offer(2) when TRYING", x.offer(2), TwoSlots.NOT_NOW);
        Due.due("offer(3) when TRYING", x.offer(3), TwoSlots.REFUSED);
        Due.stateIs(x, "TRYING", 4, 1, 2, 0, 1, 0, 1, 0, 0, 2, 0);
        x.confirm();
        Due.due("offer(2) when IDLE", x.offer(2), 1);
    }

    private static void offerDropsFetching() {
        TwoSlots x = Due.with(Due.count(1, 9), Due.count(50, 10));
        Due.due("offer(1)", x.offer(1), 2);
        Due.due("block(1, 0)", x.block(1, 0), 1);
        Due.due("offer(2)", x.offer(2), 3);
        Due.stateIs(x, "offered anew", 1, 0, 0, 0, 0, 0, 0, 2, 0, 2, 0);
        Due.due("block(1, 0)", x.block(1, 0), 2);
        Due.due("offer(2) again", x.offer(2), 3);
        Due.due("state(8)", x.state(8), 0);
        Due.due("offer(1)", x.offer(1), 2);
        Due.due("block(2, 0)", x.block(2, 0), TwoSlots.REFUSED);
    }

    private static void offerDropsInstalling() {
        TwoSlots x = Due.with(Due.count(1, 40), Due.row(7, 8));
        Due.fetch(x, 1);
        Due.due("install(1)", x.install(1), TwoSlots.INSTALLING);
        Due.due("offer(2)", x.offer(2), 1);
        // Until its blocks are there, the update leaves the spare slot alone.
        Due.stateIs(x, "dropped", 1, 0, 0, 0, 1, 0, 31, 2, 0, 2, 0);
        Due.due("sound(1)", x.sound(1), false);
        Due.due("install(1)", x.install(1), TwoSlots.NOT_NOW);
        Due.due("block(0, 0)", x.block(0, 0), 0);
        Due.stateIs(x, "fetched", 2, 0, 0, 0, 2, 0, 0, 2, 1, 2, 0);
        Due.due("install(1)", x.install(1), TwoSlots.READY);
        Due.slotIs(x, 1, 7, 8);
    }

    private static void offerIsFromWhatRuns() {
        TwoSlots x = Due.with(Due.count(1, 20), Due.count(3, 18), Due.count(60, 20));
        Due.due("offer(2) from 0", x.offer(2), 4);
        Due.update(x, 1);
        Due.due("offer(2) from 1", x.offer(2), 1);
        Due.due("offer(1) from 1", x.offer(1), 1);
        Due.due("offer(3) from 1", x.offer(3), 5);
        Due.update(x, 3);
        Due.due("offer(2) from 3", x.offer(2), 4);
        Due.due("offer(3) from 3", x.offer(3), 1);
    }

    private static void blocksInAnyOrder() {
        TwoSlots x = Due.with(Due.count(1, 12));
        Due.due("offer(1)", x.offer(1), 3);
        Due.due("block(2, 0)", x.block(2, 0), 2);
        Due.due("state(8)", x.state(8), 1);
        Due.due("block(2, 0) again", x.block(2, 0), 2);
        Due.due("state(8)", x.state(8), 1);
        Due.due("block(0, 0)", x.block(0, 0), 1);
        Due.due("block(2, 0) again", x.block(2, 0), 1);
        Due.due("state(0)", x.state(0), TwoSlots.FETCHING);
        Due.due("block(1, 0)", x.block(1, 0), 0);
        Due.stateIs(x, "fetched", 2, 0, 0, 0, 1, 0, 0, 1, 3, 1, 0);
        Due.due("install(1)", x.install(1), TwoSlots.READY);
        Due.slotIs(x, 1, Due.count(1, 12));
    }

    private static void blockRefuses() {
        TwoSlots x = Due.with(Due.count(1, 9));
        x.offer(1);
        int[][] bad = {{-1, 0}, {2, 0}, {0, -1}, {0, 256}, {Integer.MIN_VALUE, 0},
            {Integer.MAX_VALUE, 0}, {0, Integer.MIN_VALUE}, {0, Integer.MAX_VALUE}, {2, 1}};
        for (int[] b : bad) {
            String call = "block(" + b[0] + ", " + b[1] + ")";
            Due.due(call, x.block(b[0], b[1]), TwoSlots.REFUSED);
        }
        Due.stateIs(x, "nothing came", 1, 0, 0, 0, 0, 0, 0, 1, 0);
    }

    private static void blockWithoutUpdate() {
        TwoSlots x = Due.with(Due.row(1, 2, 3));
        Due.due("block(0, 0) when IDLE", x.block(0, 0), TwoSlots.REFUSED);
        Due.due("block(0, 1) when IDLE", x.block(0, 1), TwoSlots.REFUSED);
        Due.makeTrying(x, 1);
        Due.due("block(0, 0) when TRYING", x.block(0, 0), TwoSlots.REFUSED);
        x.confirm();
        Due.due("block(0, 0) when IDLE", x.block(0, 0), TwoSlots.REFUSED);
    }

    private static void blockNotNow() {
        TwoSlots x = Due.with(Due.count(1, 9));
        Due.fetch(x, 1);
        blockIsNotNow(x, "INSTALLING");
        x.install(20);
        blockIsNotNow(x, "READY");
    }

    private static void blockIsNotNow(TwoSlots x, String when) {
        Due.due("block(0, 0) when " + when, x.block(0, 0), TwoSlots.NOT_NOW);
        Due.due("block(1, 0) when " + when, x.block(1, 0), TwoSlots.NOT_NOW);
        Due.due("block(1, 9) when " + when, x.block(1, 9), TwoSlots.NOT_NOW);
        Due.due("block(2, 0) when " + when, x.block(2, 0), TwoSlots.REFUSED);
        Due.due("block(-1, 0) when " + when, x.block(-1, 0), TwoSlots.REFUSED);
        Due.due("block(0, 256) when " + when, x.block(0, 256), TwoSlots.REFUSED);
        Due.due("block(0, -1) when " + when, x.block(0, -1), TwoSlots.REFUSED);
    }

    private static void blockSpoiled() {
        TwoSlots x = Due.with(Due.count(1, 9));
        x.offer(1);
        for (int noise = 1; noise <= 255; noise++) {
            Due.due("block(0, " + noise + ")", x.block(0, noise), TwoSlots.SPOILED);
            Due.due("block(1, " + noise + ")", x.block(1, noise), TwoSlots.SPOILED);
        }
        Due.due("state(8)", x.state(8), 0);
        Due.due("block(0, 0)", x.block(0, 0), 1);
        Due.due("block(0, 255) that is there", x.block(0, 255), TwoSlots.SPOILED);
        Due.due("state(8)", x.state(8), 1);
    }

    private static void lastBlockEmptiesSpare() {
        TwoSlots x = Due.with(Due.row(1, 2, 3), Due.row(4, 5, 6), Due.row(7, 8, 9, 10, 11));
        Due.update(x, 1);
        Due.update(x, 2);
        Due.stateIs(x, "two kept", 0, 0, 0, 2, 1, 3, 3);
        Due.due("offer(3)", x.offer(3), 2);
        Due.due("block(0, 0)", x.block(0, 0), 1);
        Due.slotIs(x, 1, 1, 2, 3);
        Due.due("block(1, 0)", x.block(1, 0), 0);
        Due.stateIs(x, "fetched", 2, 0, 0, 2, 3, 3, 0, 3, 2);
        Due.due("sound(1)", x.sound(1), false);
        Due.due("sound(0)", x.sound(0), true);
    }
}

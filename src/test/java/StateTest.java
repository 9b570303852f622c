/** Promise 15: state, every number in every state of the device. */
public final class StateTest {
    public static void main(String[] args) {
        throughAnUpdate();
        triesOnlyWhenTrying();
        updateOnlyUnderWay();
        blocksThere();
        versionsAndDraft();
        refusesOtherNumbers();
        Due.end();
    }

    private static void throughAnUpdate() {
        Due.sentence("Promise 15: state",
                "0 the state, 1 the slot that runs, 2 tries left (0 if not"
                + " TRYING), 3, 4 the marks of the slots 0 and 1, 5, 6 the lengths of their rows");
        Run x = Run.with(Rows.count(1, 12), Rows.count(50, 40));
        x.due(1, "feed", 3);
        x.due(2, "feed", 4);
        x.stateIs(TwoSlots.IDLE, 0, 0, 0, 0, 0, 0, 0, 0, 2, 2);
        x.due(3, "offer", 1);
        x.due(2, "block", 2, 0);
        x.stateIs(TwoSlots.FETCHING, 0, 0, 0, 0, 0, 0, 1, 1, 2, 2);
        x.due(1, "block", 0, 0);
        x.due(0, "block", 1, 0);
        x.stateIs(TwoSlots.INSTALLING, 0, 0, 0, 1, 0, 0, 1, 3, 2, 2);
        x.due(TwoSlots.READY, "install", 1);
        x.stateIs(TwoSlots.READY, 0, 0, 0, 1, 0, 12, 1, 3, 2, 2);
        x.due(1, "boot");
        x.stateIs(TwoSlots.TRYING, 1, 2, 0, 1, 0, 12, 0, 0, 2, 2);
        x.due(1, "boot");
        x.stateIs(TwoSlots.TRYING, 1, 1, 0, 1, 0, 12, 0, 0, 2, 2);
        x.due(0, "confirm");
        x.stateIs(TwoSlots.IDLE, 1, 0, 0, 1, 0, 12, 0, 0, 2, 2);
        x.fetch(2);
        x.due(TwoSlots.INSTALLING, "install", 1);
        x.stateIs(TwoSlots.INSTALLING, 1, 0, 2, 1, 31, 12, 2, 9, 2, 2);
        x.due(TwoSlots.READY, "install", 1);
        x.stateIs(TwoSlots.READY, 1, 0, 2, 1, 40, 12, 2, 9, 2, 2);
        x.due(3, "publish");
        x.stateIs(TwoSlots.READY, 1, 0, 2, 1, 40, 12, 2, 9, 3, 0);
    }

    private static void triesOnlyWhenTrying() {
        Due.sentence("Promise 15: state", "2 tries left (0 if not TRYING)");
        for (int boots = 1; boots <= 3; boots++) {
            Run x = Run.with(Rows.row(1), Rows.row(2));
            x.due(0, "state", 2);
            x.makeReady(1);
            x.due(0, "state", 2);
            for (int i = 0; i < boots; i++) {
                x.due(1, "boot");
                x.due(2 - i, "state", 2);
            }
            x.due(0, "confirm");
            x.due(0, "state", 2);
            // Tries that were left do not show in the next update either.
            x.due(1, "offer", 2);
            x.due(0, "state", 2);
            x.due(0, "block", 0, 0);
            x.due(0, "state", 2);
            x.due(TwoSlots.READY, "install", 1);
            x.due(0, "state", 2);
            x.due(0, "boot");
            x.due(2, "state", 2);
        }
        Run back = Run.with(Rows.row(1), Rows.row(2));
        back.makeTrying(1);
        back.spoil(1);
        back.due(0, "boot");
        back.stateIs(TwoSlots.IDLE, 0, 0);
    }

    private static void updateOnlyUnderWay() {
        Due.sentence("Promise 15: state",
                "7 the version of the update (0 if none is under way: IDLE or TRYING)");
        Run x = Run.with(Rows.row(1), Rows.row(2), Rows.count(1, 40));
        x.due(0, "state", 7);
        x.due(1, "offer", 2);
        x.due(2, "state", 7);
        x.due(9, "offer", 3);
        x.due(3, "state", 7);
        x.fetch(3);
        x.due(3, "state", 7);
        x.due(TwoSlots.READY, "install", 2);
        x.due(3, "state", 7);
        for (int i = 0; i < 3; i++) {
            x.due(1, "boot");
            x.due(0, "state", 7);
        }
        x.due(0, "boot");
        x.due(0, "state", 7);
        // An update that has failed is not under way.
        x.fetch(3);
        x.due(TwoSlots.INSTALLING, "install", 1);
        x.spoil(1);
        x.due(TwoSlots.IDLE, "install", 1);
        x.due(0, "state", 7);
        x.due(0, "state", 8);
    }

    private static void blocksThere() {
        Due.sentence("Promise 15: state", "8 the blocks of it that are there (all in INSTALLING and"
                + " READY; 0 if none is under way)");
        Run x = Run.with(Rows.count(1, 40));
        x.due(0, "state", 8);
        x.due(9, "offer", 1);
        for (int there = 0; there < 9; there++) {
            x.due(there, "state", 8);
            x.due(TwoSlots.FETCHING, "state", 0);
            x.due(8 - there, "block", 8 - there, 0);
        }
        x.stateIs(TwoSlots.INSTALLING, 0, 0, 0, 1, 0, 0, 1, 9);
        x.due(TwoSlots.INSTALLING, "install", 1);
        x.due(9, "state", 8);
        x.due(0, "boot");
        x.due(9, "state", 8);
        x.due(TwoSlots.READY, "install", 2);
        x.due(9, "state", 8);
        x.due(1, "boot");
        x.due(0, "state", 8);
        x.due(0, "confirm");
        x.due(0, "state", 8);
    }

    private static void versionsAndDraft() {
        Due.sentence("Promise 15: state", "9 how many versions, 10 the draft's bytes");
        Run x = new Run();
        for (int i = 0; i < 40; i++) {
            x.due(i, "state", 10);
            x.due(i + 1, "feed", 7);
        }
        x.due(40, "state", 10);
        for (int version = 1; version <= 6; version++) {
            x.due(version - 1, "state", 9);
            x.due(version, "publish");
            x.due(version, "state", 9);
            x.due(0, "state", 10);
            x.due(version, "reuse", 1, 0, version);
            x.due(version, "state", 10);
        }
        x.due(TwoSlots.FULL, "publish");
        x.due(6, "state", 9);
        x.due(6, "state", 10);
    }

    private static void refusesOtherNumbers() {
        Due.sentence("Promise 15: state", "REFUSED for others.");
        int[] none = {-1, 11, 12, -2, -10, 255, 256, 266, 65536, Integer.MIN_VALUE,
            Integer.MAX_VALUE};
        for (int what : none) {
            new Run().refuses(TwoSlots.REFUSED, "state", what);
            Run x = Run.with(Rows.row(1, 2, 3), Rows.row(1, 2, 4));
            x.fetch(1);
            x.refuses(TwoSlots.REFUSED, "state", what);
            x.due(TwoSlots.READY, "install", 1);
            x.refuses(TwoSlots.REFUSED, "state", what);
        }
        new Run().due(0, "state", 0);
        new Run().due(0, "state", 10);
    }
}

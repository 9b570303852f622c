import java.util.ArrayList;
import java.util.List;

/**
 * Calls with numbers at and around every edge, in every state: the answer is PlainModel's, and if
 * it is below 0, all goes on as without the call.
 */
public final class RefusedTest {
    private static final int LEAST = Integer.MIN_VALUE;
    private static final int MOST = Integer.MAX_VALUE;
    private static int refused = 0;

    public static void main(String[] args) {
        Due.sentence("Terms", "A call that answers a number below 0 changes nothing, but DEAD as"
                + " said.");
        List<Call> calls = calls();
        for (Run state : states()) {
            List<List<Integer>> before = Ways.answersBehind(state);
            for (Call call : calls) {
                look(state, call, before);
            }
        }
        // Without refusals nothing would have been looked at.
        Due.due("many refusals", refused > 3000, true);
        Due.end();
    }

    private static void look(Run state, Call call, List<List<Integer>> before) {
        Run x = state.again();
        int want = call.on(state.onModel());
        x.due(want, call.name(), call.numbers());
        if (want < 0 && want != TwoSlots.DEAD) {
            refused++;
            Ways.same(x, before);
        }
    }

    private static List<Run> states() {
        List<Run> all = new ArrayList<>();
        all.add(new Run());
        all.addAll(shops());
        all.addAll(updates());
        all.addAll(boots());
        return all;
    }

    private static List<Run> shops() {
        Run begun = Run.with(Rows.count(1, 40));
        begun.due(39, "reuse", 1, 1, 39);
        Run full = begun.again();
        full.due(40, "feed", 9);
        Run six = begun.again();
        six.due(2, "publish");
        for (int version = 3; version <= 6; version++) {
            six.due(version, "reuse", 1, version, version);
            six.due(version, "publish");
        }
        Run sixAndDraft = six.again();
        sixAndDraft.due(1, "feed", 5);
        return List.of(begun, full, six, sixAndDraft);
    }

    /** Slot 1 runs version 1; the update to version 2 has 3 pieces and 2 blocks. */
    private static Run kept() {
        Run x = Run.with(Rows.count(1, 9), Rows.row(90, 2, 3, 4, 5, 91, 92), Rows.row(7));
        x.update(1);
        x.due(1, "feed", 77);
        return x;
    }

    private static List<Run> updates() {
        Run idle = kept();
        Run offered = idle.again();
        offered.due(2, "offer", 2);
        Run fetching = offered.again();
        fetching.due(1, "block", 1, 0);
        Run fetched = fetching.again();
        fetched.due(0, "block", 0, 0);
        Run installing = fetched.again();
        installing.due(TwoSlots.INSTALLING, "install", 2);
        Run failed = installing.again();
        failed.spoil(0);
        failed.due(TwoSlots.IDLE, "install", 1);
        return List.of(idle, offered, fetching, fetched, installing, failed);
    }

    private static List<Run> boots() {
        Run ready = kept();
        ready.makeReady(2);
        List<Run> all = new ArrayList<>(List.of(ready));
        Run last = ready;
        for (int tries = 2; tries >= 0; tries--) {
            last = last.again();
            last.due(0, "boot");
            last.due(tries, "state", 2);
            all.add(last);
        }
        Run back = last.again();
        back.due(1, "boot");
        all.add(back);
        Run dead = ready.again();
        dead.spoil(0);
        dead.spoil(1);
        all.add(dead);
        Run deadAndTrying = dead.again();
        deadAndTrying.due(TwoSlots.DEAD, "boot");
        all.add(deadAndTrying);
        return all;
    }

    private static List<Call> calls() {
        List<Call> all = new ArrayList<>();
        all.add(new Call("publish"));
        all.add(new Call("confirm"));
        all.add(new Call("boot"));
        int[] near = {LEAST, -1, 0, 1, 2, 3, 4, 6, 7, 9, 10, 11, 20, 21, 255, 256, MOST};
        for (int n : near) {
            all.add(new Call("feed", n));
            all.add(new Call("offer", n));
            all.add(new Call("install", n));
            all.add(new Call("state", n));
        }
        int[] versions = {LEAST, -1, 0, 1, 3, 4, 6, 7, MOST};
        int[] places = {LEAST, -1, 0, 1, 8, 9, 39, 40, 42, MOST};
        int[] slots = {LEAST, -1, 0, 1, 2, MOST};
        int[] bytes = {LEAST, -1, 0, 1, 255, 256, MOST};
        pairs(all, "patch", versions, versions);
        pairs(all, "saved", versions, versions);
        pairs(all, "block", places, bytes);
        pairs(all, "slot", slots, places);
        for (int place : places) {
            pairs(all, "reuse", new int[] {-1, 0, 1, 6, 7}, place,
                    new int[] {LEAST, 0, 1, 9, 10, 41, MOST});
            pairs(all, "damage", new int[] {-1, 0, 1, 2}, place, new int[] {-1, 0, 255, 256});
            all.add(new Call("patchByte", 1, 0, place));
            all.add(new Call("patchByte", 2, 1, place));
        }
        return all;
    }

    private static void pairs(List<Call> all, String name, int[] firsts, int[] seconds) {
        for (int first : firsts) {
            for (int second : seconds) {
                all.add(new Call(name, first, second));
            }
        }
    }

    private static void pairs(List<Call> all, String name, int[] firsts, int place, int[] lasts) {
        for (int first : firsts) {
            for (int last : lasts) {
                all.add(new Call(name, first, place, last));
            }
        }
    }
}

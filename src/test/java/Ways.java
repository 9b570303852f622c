import java.util.ArrayList;
import java.util.List;

/** Ways to go on which show, by what they answer, all that an object holds. */
final class Ways {
    private static final List<List<Call>> ALL =
            List.of(look(), sell(), installOn(), bootOn(), offerAnew());

    private Ways() {
    }

    /** What each of the ways answers behind a run. */
    static List<List<Integer>> answersBehind(Run run) {
        List<List<Integer>> all = new ArrayList<>();
        for (List<Call> way : ALL) {
            Run x = run.again();
            List<Integer> answers = new ArrayList<>();
            for (Call call : way) {
                answers.add(x.call(call));
            }
            all.add(answers);
        }
        return all;
    }

    /** The last call of the run has changed nothing: the answers are those from before it. */
    static void same(Run run, List<List<Integer>> before) {
        List<List<Integer>> behind = answersBehind(run);
        for (int way = 0; way < ALL.size(); way++) {
            for (int i = 0; i < ALL.get(way).size(); i++) {
                int got = behind.get(way).get(i);
                int want = before.get(way).get(i);
                if (got != want) {
                    Due.due("behind " + run + " (the last of these changes nothing) "
                            + ALL.get(way).get(i), got, want);
                    return;
                }
            }
        }
    }

    private static List<Call> look() {
        List<Call> way = new ArrayList<>();
        states(way, -1, 11);
        way.add(new Call("sound", 0));
        way.add(new Call("sound", 1));
        rows(way);
        return way;
    }

    /** A draft shows its bytes only once it is a version. */
    private static List<Call> sell() {
        List<Call> way = new ArrayList<>();
        way.add(new Call("publish"));
        for (int version = 1; version <= 6; version++) {
            way.add(new Call("saved", version, version - 1));
            way.add(new Call("patch", version, version - 1));
            for (int i = 0; i < 42; i++) {
                way.add(new Call("patchByte", version, 0, i));
            }
        }
        return way;
    }

    private static List<Call> installOn() {
        List<Call> way = new ArrayList<>();
        blocks(way);
        for (int i = 0; i < 16; i++) {
            way.add(new Call("install", 1));
            way.add(new Call("state", 0));
            way.add(new Call("state", 5));
            way.add(new Call("state", 6));
        }
        rows(way);
        way.add(new Call("boot"));
        way.add(new Call("confirm"));
        states(way, 0, 8);
        return way;
    }

    private static List<Call> bootOn() {
        List<Call> way = new ArrayList<>();
        for (int i = 0; i < 4; i++) {
            way.add(new Call("boot"));
            states(way, 0, 8);
        }
        way.add(new Call("offer", 1));
        way.add(new Call("block", 0, 0));
        states(way, 7, 8);
        return way;
    }

    private static List<Call> offerAnew() {
        List<Call> way = new ArrayList<>();
        way.add(new Call("confirm"));
        way.add(new Call("offer", 1));
        blocks(way);
        way.add(new Call("install", 20));
        states(way, 0, 8);
        rows(way);
        return way;
    }

    private static void states(List<Call> way, int first, int last) {
        for (int what = first; what <= last; what++) {
            way.add(new Call("state", what));
        }
    }

    private static void blocks(List<Call> way) {
        for (int i = 0; i < 9; i++) {
            way.add(new Call("block", i, 0));
        }
    }

    private static void rows(List<Call> way) {
        for (int i = 0; i < 40; i++) {
            way.add(new Call("slot", 0, i));
            way.add(new Call("slot", 1, i));
        }
    }
}

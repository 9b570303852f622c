import java.util.ArrayList;
import java.util.List;

/**
 * A new object and the calls that it has had: the run can be told, and made again on another
 * object, and is never longer than what the document promises.
 */
final class Run {
    private static final int CALLS_MOST = 512;
    private static final int CALLS_TOLD = 60;
    private final TwoSlots object = new TwoSlots();
    private final List<Call> calls = new ArrayList<>();
    private final List<Integer> answers = new ArrayList<>();

    /** A new object with these rows as its versions 1, 2, ... */
    static Run with(int[]... versions) {
        Run x = new Run();
        for (int[] version : versions) {
            x.publish(version);
        }
        return x;
    }

    /** As many versions as there may be, of the bytes 1 to 6. */
    static Run withSix() {
        Run x = new Run();
        for (int b = 1; b <= 6; b++) {
            x.publish(b);
        }
        return x;
    }

    int call(String name, int... numbers) {
        return call(new Call(name, numbers));
    }

    int call(Call call) {
        calls.add(call);
        if (calls.size() == CALLS_MOST + 1) {
            Due.wrong("this test makes more than 512 calls on one object");
        }
        int answer = call.on(object);
        answers.add(answer);
        return answer;
    }

    /** For the tests that look inside; a call made on it is not told. */
    TwoSlots object() {
        return object;
    }

    int callsLeft() {
        return CALLS_MOST - calls.size();
    }

    boolean hasCalled(String name) {
        return calls.stream().anyMatch(call -> call.name().equals(name));
    }

    boolean hasAnswered(int answer, String name, int... numbers) {
        String wanted = new Call(name, numbers).toString();
        for (int i = 0; i < calls.size(); i++) {
            if (answers.get(i) == answer && calls.get(i).toString().equals(wanted)) {
                return true;
            }
        }
        return false;
    }

    /** Another object with the same calls behind it. */
    Run again() {
        Run other = new Run();
        for (Call call : calls) {
            other.call(call);
        }
        return other;
    }

    /** The document's plain model with the same calls behind it. */
    PlainModel onModel() {
        PlainModel model = new PlainModel();
        for (Call call : calls) {
            call.on(model);
        }
        return model;
    }

    void due(int want, String name, int... numbers) {
        int got = call(name, numbers);
        // The run is told only if it is wrong: it is a long text.
        if (got != want) {
            Due.due(this + " (the last of these)", got, want);
        }
    }

    /** The answer is due, and all goes on as if the call had not been made. */
    void refuses(int want, String name, int... numbers) {
        List<List<Integer>> before = Ways.answersBehind(this);
        due(want, name, numbers);
        Ways.same(this, before);
    }

    void publish(int... bytes) {
        int before = call("state", 9);
        for (int i = 0; i < bytes.length; i++) {
            due(i + 1, "feed", bytes[i]);
        }
        due(before + 1, "publish");
    }

    void patchIs(int version, int old, int... bytes) {
        due(bytes.length, "patch", version, old);
        for (int i = 0; i < bytes.length; i++) {
            due(bytes[i], "patchByte", version, old, i);
        }
        due(TwoSlots.REFUSED, "patchByte", version, old, bytes.length);
    }

    void slotIs(int slot, int... bytes) {
        due(bytes.length, "state", 5 + slot);
        for (int i = 0; i < bytes.length; i++) {
            due(bytes[i], "slot", slot, i);
        }
        due(TwoSlots.REFUSED, "slot", slot, bytes.length);
    }

    /** The answers of state(0), state(1), ... in one row. */
    void stateIs(int... numbers) {
        for (int i = 0; i < numbers.length; i++) {
            due(numbers[i], "state", i);
        }
    }

    /** An update whose blocks are all there. */
    void fetch(int version) {
        int blocks = call("offer", version);
        for (int i = 0; i < blocks; i++) {
            due(blocks - 1 - i, "block", i, 0);
        }
        due(TwoSlots.INSTALLING, "state", 0);
    }

    void makeReady(int version) {
        fetch(version);
        due(TwoSlots.READY, "install", 20);
    }

    void makeTrying(int version) {
        makeReady(version);
        int other = 1 - call("state", 1);
        due(other, "boot");
        due(TwoSlots.TRYING, "state", 0);
    }

    /** The version runs and is kept. */
    void update(int version) {
        makeTrying(version);
        due(0, "confirm");
    }

    /** A byte of the slot becomes another one, so that the slot is not SOUND. */
    void spoil(int slot) {
        int b = call("slot", slot, 0);
        due(0, "damage", slot, 0, b ^ 128);
        due(0, "sound", slot);
    }

    /** Takes spoil back. */
    void mend(int slot) {
        int b = call("slot", slot, 0);
        due(0, "damage", slot, 0, b ^ 128);
        due(1, "sound", slot);
    }

    @Override
    public String toString() {
        StringBuilder text = new StringBuilder();
        int first = Math.max(0, calls.size() - CALLS_TOLD);
        if (first > 0) {
            text.append(".. ").append(first).append(" calls more .. ");
        }
        for (int i = first; i < calls.size(); i++) {
            text.append(calls.get(i)).append('=').append(answers.get(i)).append(' ');
        }
        return text.toString().trim();
    }
}

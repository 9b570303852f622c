import java.util.Random;
import java.util.Set;
import java.util.TreeSet;

/** Runs of 512 calls on the class and on PlainModel side by side: both must answer the same. */
public final class ModelTest {
    private static final int RUNS = 6000;
    /** What lookAtAll asks at most, and one, as the calls before it come in twos. */
    private static final int LAST_LOOK = 13 + 2 * 41 + 1;
    private static final int[] ODD = {Integer.MIN_VALUE, -41, -2, -1, 0, 1, 2, 5, 6, 7, 9, 11, 20,
        21, 31, 32, 39, 40, 41, 42, 255, 256, 65536, Integer.MAX_VALUE};
    private static final int METHODS = 15;
    private static final int STATES = 5;
    private static final int[] seen = new int[STATES];
    private static int dead = 0;
    private static int throughAll = 0;

    private final Random random;
    private final Run real = new Run();
    private final PlainModel model = new PlainModel();
    private final int alphabet;
    private final Set<String> called = new TreeSet<>();
    private final Set<Integer> gone = new TreeSet<>();

    private ModelTest(int seed) {
        random = new Random(seed);
        alphabet = new int[] {1, 2, 3, 5, 20, 256}[seed % 6];
    }

    public static void main(String[] args) {
        boolean right = true;
        for (int seed = 1; seed <= RUNS && right; seed++) {
            right = new ModelTest(seed).run();
        }
        // Runs that never get somewhere prove nothing about it.
        for (int state = 0; state < seen.length; state++) {
            Due.due("often in state " + state, seen[state] > 10000, true);
        }
        Due.due("often DEAD", dead > 1000, true);
        Due.due("most runs have every method and state", throughAll > RUNS / 2, true);
        Due.end();
    }

    /** The look at all comes now early, now late; behind it the run goes on to its last call. */
    private boolean run() {
        boolean right = goOn(LAST_LOOK + random.nextInt(200)) && lookAtAll() && goOn(1);
        right = right && (real.callsLeft() == 0 || same(someCall()));
        boolean all = called.size() == METHODS && gone.size() == STATES;
        throughAll += right && all && real.callsLeft() == 0 ? 1 : 0;
        return right;
    }

    /** Until no more calls than these are left. */
    private boolean goOn(int keep) {
        boolean right = true;
        while (right && real.callsLeft() > keep) {
            right = same(someCall()) && same(someLook()) && slotKeepsItsLength();
            seen[model.state(0)]++;
            gone.add(model.state(0));
        }
        return right;
    }

    private boolean same(Call call) {
        called.add(call.name());
        int want = call.on(model);
        int got = real.call(call);
        dead += want == TwoSlots.DEAD ? 1 : 0;
        if (got != want) {
            Due.due(real + " (the last of these)", got, want);
        }
        return got == want;
    }

    private boolean lookAtAll() {
        boolean right = true;
        for (int what = 0; what <= 10; what++) {
            right &= same(new Call("state", what));
        }
        for (int slot = 0; slot <= 1; slot++) {
            right &= same(new Call("sound", slot));
            for (int i = 0; i <= model.state(5 + slot); i++) {
                right &= same(new Call("slot", slot, i));
            }
        }
        return right;
    }

    /** Why InsideTest is needed. */
    private boolean slotKeepsItsLength() {
        int running = model.state(1);
        boolean right = model.state(5 + running) == model.lengthOf(model.state(3 + running));
        Due.due("the slot that runs has its mark's length", right, true);
        return right;
    }

    /** Mostly a number that fits, now and then one that does not. */
    private int number(int low, int high) {
        if (random.nextInt(25) == 0) {
            return ODD[random.nextInt(ODD.length)];
        }
        return low + random.nextInt(Math.max(1, high - low + 1));
    }

    private int version() {
        return number(1, Math.max(1, model.state(9)));
    }

    private Call someCall() {
        int dice = random.nextInt(100);
        if (dice < 25) {
            return write();
        }
        if (dice < 70) {
            return onward();
        }
        switch (dice % 6) {
            case 0:
                return new Call("offer", version());
            case 1:
                return new Call("block", number(0, 8), number(0, 1));
            case 2:
                return new Call("install", number(1, 20));
            case 3:
                return new Call("boot");
            case 4:
                return new Call("confirm");
            default:
                return damage();
        }
    }

    /** What brings the device to its next state, so that a run gets through some updates. */
    private Call onward() {
        switch (model.state(0)) {
            case TwoSlots.IDLE:
                return new Call("offer", version());
            case TwoSlots.FETCHING:
                return new Call("block", random.nextInt(model.blocks()), 0);
            case TwoSlots.INSTALLING:
                return new Call("install", number(1, 2));
            case TwoSlots.READY:
                return random.nextInt(3) == 0 ? damage() : new Call("boot");
            default:
                return new Call(random.nextInt(3) == 0 ? "confirm" : "boot");
        }
    }

    private Call write() {
        int dice = random.nextInt(8);
        if (dice == 0) {
            return new Call("publish");
        }
        if (dice < 4 && model.state(10) < 40) {
            return new Call("feed", number(0, alphabet - 1));
        }
        return new Call("reuse", version(), number(0, 20), number(1, 20));
    }

    /** A byte of the small alphabet is likely the right one, so that slots become SOUND again. */
    private Call damage() {
        int b = number(0, random.nextBoolean() ? 255 : alphabet - 1);
        return new Call("damage", number(0, 1), number(0, 2), b);
    }

    private Call someLook() {
        switch (random.nextInt(6)) {
            case 0:
                return new Call("patch", version(), number(0, model.state(9)));
            case 1:
                return new Call("saved", version(), number(0, model.state(9)));
            case 2:
                return new Call("patchByte", version(), number(0, model.state(9)), number(0, 12));
            case 3:
                return new Call("slot", number(0, 1), number(0, 40));
            case 4:
                return new Call("sound", number(0, 1));
            default:
                return new Call("state", number(0, 10));
        }
    }
}

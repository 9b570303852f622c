import java.util.Random;

/** Long runs of calls on the class and on PlainModel side by side: both must answer the same. */
public final class ModelTest {
    private static final int RUNS = 3000;
    private static final int CALLS = 512;
    private static final int[] ODD = {Integer.MIN_VALUE, -41, -2, -1, 0, 1, 2, 5, 6, 7, 9, 11, 20,
        21, 31, 32, 39, 40, 41, 42, 255, 256, 65536, Integer.MAX_VALUE};
    private static final int[] seen = new int[5];
    private static int dead = 0;

    private final Random random;
    private final TwoSlots real = new TwoSlots();
    private final PlainModel model = new PlainModel();
    private final int alphabet;
    private int got;
    private int want;

    private ModelTest(int seed) {
        random = new Random(seed);
        alphabet = new int[] {1, 2, 3, 5, 20, 256}[seed % 6];
    }

    public static void main(String[] args) {
        boolean right = true;
        for (int seed = 1; seed <= RUNS && right; seed++) {
            right = new ModelTest(seed).run(seed);
        }
        // A run that never gets somewhere proves nothing about it.
        for (int state = 0; state < seen.length; state++) {
            Due.due("often in state " + state, seen[state] > 1000, true);
        }
        Due.due("often DEAD", dead > 1000, true);
        Due.end();
    }

    private boolean run(int seed) {
        for (int i = 1; i <= CALLS; i++) {
            String call = "run " + seed + ", call " + i + ": " + oneCall();
            Due.due(call, got, want);
            seen[real.state(0)]++;
            dead += got == TwoSlots.DEAD ? 1 : 0;
            if (got != want || !sameState(call)) {
                return false;
            }
        }
        return true;
    }

    private boolean sameState(String call) {
        boolean same = true;
        for (int what = -1; what <= 11; what++) {
            Due.due(call + ", then state(" + what + ")", real.state(what), model.state(what));
            same &= real.state(what) == model.state(what);
        }
        for (int slot = 0; slot <= 1; slot++) {
            Due.due(call + ", then sound(" + slot + ")", real.sound(slot), model.sound(slot));
            same &= real.sound(slot) == model.sound(slot);
            for (int i = 0; i < real.state(5 + slot); i++) {
                String then = call + ", then slot(" + slot + ", " + i + ")";
                Due.due(then, real.slot(slot, i), model.slot(slot, i));
                same &= real.slot(slot, i) == model.slot(slot, i);
            }
        }
        return same;
    }

    /** Mostly a number that fits, now and then one that does not. */
    private int number(int low, int high) {
        if (random.nextInt(25) == 0) {
            return ODD[random.nextInt(ODD.length)];
        }
        return low + random.nextInt(Math.max(1, high - low + 1));
    }

    private int version() {
        return number(1, Math.max(1, real.state(9)));
    }

    private String oneCall() {
        int dice = random.nextInt(100);
        if (dice < 22) {
            return real.state(10) < 40 && random.nextInt(3) > 0 ? feed() : reuse();
        }
        if (dice < 26) {
            return publish();
        }
        if (dice < 34) {
            return patchCall();
        }
        if (dice < 40) {
            int version = version();
            return answer("offer(" + version + ")", real.offer(version), model.offer(version));
        }
        if (dice < 66) {
            return block();
        }
        if (dice < 80) {
            int n = number(1, random.nextInt(3) == 0 ? 20 : 2);
            return answer("install(" + n + ")", real.install(n), model.install(n));
        }
        if (dice < 88) {
            return answer("boot()", real.boot(), model.boot());
        }
        if (dice < 91) {
            return answer("confirm()", real.confirm(), model.confirm());
        }
        return dice < 95 ? damage() : look();
    }

    private String answer(String call, int answered, int due) {
        got = answered;
        want = due;
        return call;
    }

    private String feed() {
        int b = number(0, alphabet - 1);
        return answer("feed(" + b + ")", real.feed(b), model.feed(b));
    }

    private String reuse() {
        int version = version();
        int place = number(0, 20);
        int n = number(1, 20);
        String call = "reuse(" + version + ", " + place + ", " + n + ")";
        return answer(call, real.reuse(version, place, n), model.reuse(version, place, n));
    }

    private String publish() {
        return answer("publish()", real.publish(), model.publish());
    }

    private String patchCall() {
        int version = version();
        int old = number(0, real.state(9));
        String pair = "(" + version + ", " + old + ")";
        switch (random.nextInt(3)) {
            case 0:
                return answer("patch" + pair, real.patch(version, old), model.patch(version, old));
            case 1:
                return answer("saved" + pair, real.saved(version, old), model.saved(version, old));
            default:
                int i = number(0, 12);
                return answer("byte " + i + " of patch" + pair, real.patchByte(version, old, i),
                        model.patchByte(version, old, i));
        }
    }

    private String block() {
        int i = number(0, 8);
        int noise = random.nextInt(6) == 0 ? number(0, 255) : 0;
        return answer("block(" + i + ", " + noise + ")", real.block(i, noise),
                model.block(i, noise));
    }

    /** A byte of the small alphabet is likely the right one, so that slots become SOUND again. */
    private String damage() {
        int slot = number(0, 1);
        int i = number(0, 2);
        int b = number(0, random.nextBoolean() ? 255 : alphabet - 1);
        String call = "damage(" + slot + ", " + i + ", " + b + ")";
        return answer(call, real.damage(slot, i, b), model.damage(slot, i, b));
    }

    private String look() {
        int slot = number(0, 1);
        int i = number(0, 40);
        return answer("slot(" + slot + ", " + i + ")", real.slot(slot, i), model.slot(slot, i));
    }
}

/** What the tests share: counting wrong answers, and the ways to bring an object somewhere. */
final class Due {
    private static int wrong = 0;

    private Due() {
    }

    static void due(String call, long got, long want) {
        if (got != want) {
            wrong++;
            System.out.println(call + " answered " + got + ", due is " + want);
        }
    }

    static void due(String call, boolean got, boolean want) {
        due(call, got ? 1 : 0, want ? 1 : 0);
    }

    static void end() {
        if (wrong != 0) {
            System.out.println(wrong + " answers are not as due");
            System.exit(1);
        }
    }

    /** The bytes first, first + 1, ... */
    static int[] count(int first, int many) {
        int[] row = new int[many];
        for (int i = 0; i < many; i++) {
            row[i] = first + i;
        }
        return row;
    }

    static int[] row(int... bytes) {
        return bytes;
    }

    static int[] join(int[]... rows) {
        int many = 0;
        for (int[] row : rows) {
            many += row.length;
        }
        int[] all = new int[many];
        int at = 0;
        for (int[] row : rows) {
            System.arraycopy(row, 0, all, at, row.length);
            at += row.length;
        }
        return all;
    }

    /** A new object with these rows as its versions 1, 2, ... */
    static TwoSlots with(int[]... versions) {
        TwoSlots x = new TwoSlots();
        for (int[] version : versions) {
            publish(x, version);
        }
        return x;
    }

    static void publish(TwoSlots x, int... bytes) {
        int before = x.state(9);
        for (int i = 0; i < bytes.length; i++) {
            due("feed(" + bytes[i] + ")", x.feed(bytes[i]), i + 1);
        }
        due("publish()", x.publish(), before + 1);
    }

    static void patchIs(TwoSlots x, int version, int old, int... bytes) {
        String call = "patch(" + version + ", " + old + ")";
        due(call, x.patch(version, old), bytes.length);
        for (int i = 0; i < bytes.length; i++) {
            due(call + " byte " + i, x.patchByte(version, old, i), bytes[i]);
        }
        due(call + " behind its end", x.patchByte(version, old, bytes.length), TwoSlots.REFUSED);
    }

    static void slotIs(TwoSlots x, int slot, int... bytes) {
        due("length of slot " + slot, x.state(5 + slot), bytes.length);
        for (int i = 0; i < bytes.length; i++) {
            due("slot(" + slot + ", " + i + ")", x.slot(slot, i), bytes[i]);
        }
        due("slot " + slot + " behind its end", x.slot(slot, bytes.length), TwoSlots.REFUSED);
    }

    /** The answers of state(0), state(1), ... in one row. */
    static void stateIs(TwoSlots x, String when, int... numbers) {
        for (int i = 0; i < numbers.length; i++) {
            due(when + ": state(" + i + ")", x.state(i), numbers[i]);
        }
    }

    /** An update whose blocks are all there. */
    static void fetch(TwoSlots x, int version) {
        int blocks = x.offer(version);
        for (int i = 0; i < blocks; i++) {
            due("block(" + i + ", 0)", x.block(i, 0), blocks - 1 - i);
        }
        due("state(0) with all blocks", x.state(0), TwoSlots.INSTALLING);
    }

    static void makeReady(TwoSlots x, int version) {
        fetch(x, version);
        due("install(20)", x.install(20), TwoSlots.READY);
    }

    static void makeTrying(TwoSlots x, int version) {
        makeReady(x, version);
        int other = 1 - x.state(1);
        due("boot() when READY", x.boot(), other);
        due("state(0) behind that boot", x.state(0), TwoSlots.TRYING);
    }

    static void update(TwoSlots x, int version) {
        makeTrying(x, version);
        due("confirm()", x.confirm(), 0);
    }
}

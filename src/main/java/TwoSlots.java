/**
 * Releases from the shop to a device: versions of an image, patches that make one version of
 * another, and a device with two slots that installs beside what runs. The public methods look at
 * the arguments; the classes inside do the work.
 */
public final class TwoSlots {
    public static final int REFUSED = -1;
    public static final int FULL = -2;
    public static final int SPOILED = -3;
    public static final int NOT_NOW = -4;
    public static final int DEAD = -5;
    public static final int IDLE = 0;
    public static final int FETCHING = 1;
    public static final int INSTALLING = 2;
    public static final int READY = 3;
    public static final int TRYING = 4;

    private static final int BYTE_MOST = 255;
    private static final int ROW_MOST = 40;
    private static final int VERSIONS_MOST = 6;
    private static final int PIECES_MOST = 20;
    private static final int TRIES_MOST = 2;
    private static final int BLOCK_BYTES = 5;
    private static final int COPY_LEAST = 4;
    private static final int COPY_BASE = 28;
    private static final int LOOSE_MOST = 31;
    // 40 loose bytes need two counts; a copy saves at least 2 bytes and opens at most one more
    // loose row, so no patch is longer than that.
    private static final int PATCH_MOST = 42;
    private static final int BLOCKS_MOST = 9;

    private final Row draft;
    private final Row[] versions;
    private int published;
    private final Patch asked;
    private int askedVersion;
    private int askedOld;
    private final Device device;

    public TwoSlots() {
        draft = new Row(ROW_MOST);
        versions = new Row[VERSIONS_MOST + 1];
        for (int i = 0; i < versions.length; i++) {
            versions[i] = new Row(ROW_MOST);
        }
        published = 0;
        asked = new Patch();
        askedVersion = 0;
        askedOld = 0;
        device = new Device(versions);
    }

    public int feed(int b) {
        if (!isByte(b)) {
            return REFUSED;
        }
        if (draft.length() >= ROW_MOST) {
            return FULL;
        }
        draft.append(b);
        return draft.length();
    }

    public int reuse(int version, int place, int n) {
        if (!isVersion(version) || place < 0 || n < 1) {
            return REFUSED;
        }
        // Taken apart this way, no sum can wrap around.
        if (n > versions[version].length() - place) {
            return REFUSED;
        }
        if (n > ROW_MOST - draft.length()) {
            return FULL;
        }
        draft.appendFrom(versions[version], place, n);
        return draft.length();
    }

    public int publish() {
        if (draft.length() == 0) {
            return REFUSED;
        }
        if (published >= VERSIONS_MOST) {
            return FULL;
        }
        published++;
        versions[published].appendFrom(draft, 0, draft.length());
        draft.empty();
        return published;
    }

    public int patch(int version, int old) {
        return findPatch(version, old) ? asked.length() : REFUSED;
    }

    public int patchByte(int version, int old, int i) {
        return findPatch(version, old) && asked.has(i) ? asked.at(i) : REFUSED;
    }

    public int saved(int version, int old) {
        return findPatch(version, old) ? asked.copied() : REFUSED;
    }

    public int offer(int version) {
        if (version == 0 || !isVersion(version)) {
            return REFUSED;
        }
        if (device.isIn(READY) || device.isIn(TRYING)) {
            return NOT_NOW;
        }
        return device.beginUpdate(version);
    }

    public int block(int i, int noise) {
        if (!isByte(noise) || !device.hasBlock(i)) {
            return REFUSED;
        }
        if (!device.isIn(FETCHING)) {
            return NOT_NOW;
        }
        // 31 is odd, so a first byte that differs always gives another CHECK: the noise alone
        // decides.
        if (noise != 0) {
            return SPOILED;
        }
        return device.takeBlock(i);
    }

    public int install(int n) {
        if (n < 1 || n > PIECES_MOST) {
            return REFUSED;
        }
        if (!device.isIn(INSTALLING)) {
            return NOT_NOW;
        }
        return device.installPieces(n);
    }

    public int boot() {
        return device.start();
    }

    public int confirm() {
        if (!device.isIn(TRYING)) {
            return NOT_NOW;
        }
        device.keep();
        return 0;
    }

    public int damage(int slot, int i, int b) {
        if (!isSlot(slot) || !device.row(slot).has(i) || !isByte(b)) {
            return REFUSED;
        }
        device.row(slot).change(i, b);
        return 0;
    }

    public int slot(int slot, int i) {
        return isSlot(slot) && device.row(slot).has(i) ? device.row(slot).at(i) : REFUSED;
    }

    public int state(int what) {
        switch (what) {
            case 0:
                return device.stateNow();
            case 1:
                return device.runningSlot();
            case 2:
                return device.triesNow();
            case 3:
                return device.mark(0);
            case 4:
                return device.mark(1);
            case 5:
                return device.row(0).length();
            case 6:
                return device.row(1).length();
            case 7:
                return device.updateVersion();
            case 8:
                return device.blocksThere();
            case 9:
                return published;
            case 10:
                return draft.length();
            default:
                return REFUSED;
        }
    }

    public boolean sound(int slot) {
        return isSlot(slot) && device.isSound(slot);
    }

    private static boolean isByte(int b) {
        return b >= 0 && b <= BYTE_MOST;
    }

    private static boolean isSlot(int slot) {
        return slot == 0 || slot == 1;
    }

    private boolean isVersion(int version) {
        return version >= 0 && version <= published;
    }

    /**
     * Versions never change, so the patch that was asked for last stays right and is not made
     * again: patchByte is mostly called for one patch many times.
     */
    private boolean findPatch(int version, int old) {
        if (version == 0 || !isVersion(version) || !isVersion(old)) {
            return false;
        }
        if (version != askedVersion || old != askedOld) {
            asked.make(versions[version], versions[old]);
            askedVersion = version;
            askedOld = old;
        }
        return true;
    }

    /** Bytes one behind the other in a room that is made once and used again. */
    private static final class Row {
        private final int[] bytes;
        private int length;

        Row(int room) {
            bytes = new int[room];
            length = 0;
        }

        int length() {
            return length;
        }

        boolean has(int i) {
            return i >= 0 && i < length;
        }

        /** Gives 0 for a place that is not there, as a copy out of a slot must. */
        int at(int i) {
            return has(i) ? bytes[i] : 0;
        }

        void empty() {
            length = 0;
        }

        /** Leaves out what goes beyond the room, as installing into a slot must. */
        void append(int b) {
            if (length < bytes.length) {
                bytes[length] = b;
                length++;
            }
        }

        void appendFrom(Row source, int place, int n) {
            for (int i = 0; i < n; i++) {
                append(source.at(place + i));
            }
        }

        void change(int i, int b) {
            if (has(i)) {
                bytes[i] = b;
            }
        }

        int check() {
            int c = 17;
            for (int i = 0; i < length; i++) {
                c = (c * 31 + bytes[i]) & 65535;
            }
            return c;
        }

        boolean looksLike(Row other) {
            return length == other.length && check() == other.check();
        }
    }

    /** The bytes that make a version of an old one. */
    private static final class Patch {
        private final Row bytes;
        private int copied;

        Patch() {
            bytes = new Row(PATCH_MOST);
            copied = 0;
        }

        int length() {
            return bytes.length();
        }

        boolean has(int i) {
            return bytes.has(i);
        }

        int at(int i) {
            return bytes.at(i);
        }

        int copied() {
            return copied;
        }

        void make(Row version, Row old) {
            bytes.empty();
            copied = 0;
            int looseFrom = 0;
            int step = 1;
            for (int p = 0; p < version.length(); p += step) {
                int place = matchPlace(version, p, old);
                int many = common(version, p, old, place);
                step = 1;
                if (many >= COPY_LEAST) {
                    putLoose(version, looseFrom, p);
                    putCopy(place, many);
                    step = many;
                    looseFrom = p + many;
                }
            }
            putLoose(version, looseFrom, version.length());
        }

        private static int matchPlace(Row version, int p, Row old) {
            int longest = 0;
            int found = 0;
            for (int place = 0; place < old.length(); place++) {
                int many = common(version, p, old, place);
                if (many > longest) {
                    longest = many;
                    found = place;
                }
            }
            return found;
        }

        private static int common(Row version, int p, Row old, int place) {
            int most = Math.min(version.length() - p, old.length() - place);
            int many = 0;
            while (many < most && version.at(p + many) == old.at(place + many)) {
                many++;
            }
            return many;
        }

        private void putCopy(int place, int many) {
            bytes.append(COPY_BASE + many);
            bytes.append(place);
            copied += many;
        }

        private void putLoose(Row version, int start, int end) {
            for (int p = start; p < end; p += LOOSE_MOST) {
                int many = Math.min(LOOSE_MOST, end - p);
                bytes.append(many);
                bytes.appendFrom(version, p, many);
            }
        }

        int blocks() {
            return (bytes.length() + BLOCK_BYTES - 1) / BLOCK_BYTES;
        }

        /** Puts the piece that begins at a place behind a row, and tells where the next begins. */
        int putPiece(int place, Row running, Row spare) {
            int head = bytes.at(place);
            if (head <= LOOSE_MOST) {
                spare.appendFrom(bytes, place + 1, head);
                return place + 1 + head;
            }
            spare.appendFrom(running, bytes.at(place + 1), head - COPY_BASE);
            return place + 2;
        }
    }

    /** Two slots, and the update that comes into the one that does not run. */
    private static final class Device {
        private final Row[] versions;
        private final Row[] rows;
        private final int[] marks;
        private int running;
        private int state;
        private int tries;
        private int target;
        private final Patch update;
        private final boolean[] there;
        private int missing;
        private int next;

        Device(Row[] known) {
            versions = known;
            rows = new Row[] {new Row(ROW_MOST), new Row(ROW_MOST)};
            marks = new int[2];
            running = 0;
            state = IDLE;
            tries = 0;
            target = 0;
            update = new Patch();
            there = new boolean[BLOCKS_MOST];
            missing = 0;
            next = 0;
        }

        boolean isIn(int wanted) {
            return state == wanted;
        }

        int stateNow() {
            return state;
        }

        int runningSlot() {
            return running;
        }

        int triesNow() {
            return state == TRYING ? tries : 0;
        }

        int mark(int slot) {
            return marks[slot];
        }

        Row row(int slot) {
            return rows[slot];
        }

        boolean isSound(int slot) {
            return rows[slot].looksLike(versions[marks[slot]]);
        }

        int updateVersion() {
            return isUnderWay() ? target : 0;
        }

        int blocksThere() {
            return isUnderWay() ? update.blocks() - missing : 0;
        }

        boolean hasBlock(int i) {
            return isUnderWay() && i >= 0 && i < update.blocks();
        }

        /** What runs keeps its mark until the update has ended, so the patch is made just once. */
        int beginUpdate(int version) {
            update.make(versions[version], versions[marks[running]]);
            target = version;
            missing = update.blocks();
            for (int i = 0; i < there.length; i++) {
                there[i] = false;
            }
            state = FETCHING;
            return missing;
        }

        int takeBlock(int i) {
            if (!there[i]) {
                there[i] = true;
                missing--;
            }
            if (missing == 0) {
                beginInstalling();
            }
            return missing;
        }

        int installPieces(int n) {
            for (int i = 0; i < n && state == INSTALLING; i++) {
                next = update.putPiece(next, rows[running], rows[spare()]);
                if (next >= update.length()) {
                    state = isSound(spare()) ? READY : IDLE;
                }
            }
            return state;
        }

        int start() {
            stepAtBoot();
            if (isSound(running)) {
                return running;
            }
            if (!isSound(spare())) {
                return DEAD;
            }
            goBack();
            return running;
        }

        void keep() {
            state = IDLE;
        }

        private boolean isUnderWay() {
            return state == FETCHING || state == INSTALLING || state == READY;
        }

        private int spare() {
            return 1 - running;
        }

        private void beginInstalling() {
            rows[spare()].empty();
            marks[spare()] = target;
            next = 0;
            state = INSTALLING;
        }

        /** What is done here stands even if the device turns out to be DEAD. */
        private void stepAtBoot() {
            switch (state) {
                case READY:
                    running = spare();
                    state = TRYING;
                    tries = TRIES_MOST;
                    break;
                case TRYING:
                    useTry();
                    break;
                case INSTALLING:
                    beginInstalling();
                    break;
                default:
                    break;
            }
        }

        private void useTry() {
            if (tries > 0) {
                tries--;
            } else {
                goBack();
            }
        }

        private void goBack() {
            running = spare();
            state = IDLE;
        }
    }
}

import java.util.ArrayList;
import java.util.Collections;
import java.util.List;
import java.util.TreeSet;

/**
 * The document once more, written with lists and without a thought for room or speed, so that a
 * slip in the class is not likely to stand here too.
 */
final class PlainModel {
    private final List<List<Integer>> versions = new ArrayList<>();
    private List<Integer> draft = new ArrayList<>();
    private final List<List<Integer>> slots = new ArrayList<>();
    private final int[] marks = {0, 0};
    private int runs = 0;
    private String mode = "IDLE";
    private int tries = 0;
    private int target = 0;
    private List<List<Integer>> pieces = List.of();
    private List<Integer> sent = List.of();
    private final TreeSet<Integer> arrived = new TreeSet<>();
    private int piecesDone = 0;

    PlainModel() {
        versions.add(new ArrayList<>());
        slots.add(new ArrayList<>());
        slots.add(new ArrayList<>());
    }

    private static final List<String> MODES =
            List.of("IDLE", "FETCHING", "INSTALLING", "READY", "TRYING");

    private static boolean within(int low, int n, int high) {
        return low <= n && n <= high;
    }

    private int newest() {
        return versions.size() - 1;
    }

    int lengthOf(int version) {
        return versions.get(version).size();
    }

    int feed(int b) {
        if (!within(0, b, 255)) {
            return -1;
        }
        if (draft.size() == 40) {
            return -2;
        }
        draft.add(b);
        return draft.size();
    }

    int reuse(int version, int place, int n) {
        if (n < 1 || place < 0 || !within(0, version, newest())
                || (long) place + n > versions.get(version).size()) {
            return -1;
        }
        if (draft.size() + n > 40) {
            return -2;
        }
        draft.addAll(versions.get(version).subList(place, place + n));
        return draft.size();
    }

    int publish() {
        if (draft.isEmpty()) {
            return -1;
        }
        if (newest() == 6) {
            return -2;
        }
        versions.add(draft);
        draft = new ArrayList<>();
        return newest();
    }

    /** A copy is a row of two, its head first; a loose row begins with how many. */
    private static List<List<Integer>> piecesOf(List<Integer> made, List<Integer> old) {
        List<List<Integer>> all = new ArrayList<>();
        List<Integer> loose = null;
        int p = 0;
        while (p < made.size()) {
            int n = made.size() - p;
            while (n > 0 && Collections.indexOfSubList(old, made.subList(p, p + n)) < 0) {
                n--;
            }
            if (n >= 4) {
                int place = Collections.indexOfSubList(old, made.subList(p, p + n));
                all.add(List.of(28 + n, place));
                loose = null;
                p += n;
            } else {
                if (loose == null || loose.size() == 32) {
                    loose = new ArrayList<>(List.of(0));
                    all.add(loose);
                }
                loose.add(made.get(p));
                loose.set(0, loose.size() - 1);
                p++;
            }
        }
        return all;
    }

    private static List<Integer> flat(List<List<Integer>> rows) {
        List<Integer> all = new ArrayList<>();
        rows.forEach(all::addAll);
        return all;
    }

    private boolean noPatch(int version, int old) {
        return !within(1, version, newest()) || !within(0, old, newest());
    }

    private List<List<Integer>> piecesFor(int version, int old) {
        return piecesOf(versions.get(version), versions.get(old));
    }

    int patch(int version, int old) {
        return noPatch(version, old) ? -1 : flat(piecesFor(version, old)).size();
    }

    int patchByte(int version, int old, int i) {
        if (noPatch(version, old)) {
            return -1;
        }
        List<Integer> bytes = flat(piecesFor(version, old));
        return within(0, i, bytes.size() - 1) ? bytes.get(i) : -1;
    }

    int saved(int version, int old) {
        if (noPatch(version, old)) {
            return -1;
        }
        return piecesFor(version, old).stream().mapToInt(r -> r.get(0) > 31 ? r.get(0) - 28 : 0)
                .sum();
    }

    private boolean underWay() {
        return List.of("FETCHING", "INSTALLING", "READY").contains(mode);
    }

    int blocks() {
        return sent.size() / 5 + (sent.size() % 5 == 0 ? 0 : 1);
    }

    int offer(int version) {
        if (!within(1, version, newest())) {
            return -1;
        }
        if (mode.equals("READY") || mode.equals("TRYING")) {
            return -4;
        }
        target = version;
        pieces = piecesFor(version, marks[runs]);
        sent = flat(pieces);
        arrived.clear();
        mode = "FETCHING";
        return blocks();
    }

    int block(int i, int noise) {
        if (!within(0, noise, 255) || !underWay() || !within(0, i, blocks() - 1)) {
            return -1;
        }
        if (!mode.equals("FETCHING")) {
            return -4;
        }
        List<Integer> good = sent.subList(5 * i, Math.min(5 * i + 5, sent.size()));
        List<Integer> come = new ArrayList<>(good);
        come.set(0, good.get(0) ^ noise);
        if (check(come) != check(good)) {
            return -3;
        }
        arrived.add(i);
        if (arrived.size() == blocks()) {
            beginPieces();
        }
        return blocks() - arrived.size();
    }

    private void beginPieces() {
        mode = "INSTALLING";
        slots.get(1 - runs).clear();
        marks[1 - runs] = target;
        piecesDone = 0;
    }

    int install(int n) {
        if (!within(1, n, 20)) {
            return -1;
        }
        if (!mode.equals("INSTALLING")) {
            return -4;
        }
        List<Integer> spare = slots.get(1 - runs);
        for (int i = 0; i < n && piecesDone < pieces.size(); i++) {
            List<Integer> piece = pieces.get(piecesDone++);
            if (piece.get(0) > 31) {
                List<Integer> from = slots.get(runs);
                for (int k = piece.get(1); k < piece.get(1) + piece.get(0) - 28; k++) {
                    spare.add(k < from.size() ? from.get(k) : 0);
                }
            } else {
                spare.addAll(piece.subList(1, piece.size()));
            }
            if (spare.size() > 40) {
                spare.subList(40, spare.size()).clear();
            }
        }
        if (piecesDone == pieces.size()) {
            mode = sound(1 - runs) ? "READY" : "IDLE";
        }
        return MODES.indexOf(mode);
    }

    int boot() {
        if (mode.equals("READY")) {
            runs = 1 - runs;
            mode = "TRYING";
            tries = 2;
        } else if (mode.equals("TRYING") && tries > 0) {
            tries--;
        } else if (mode.equals("TRYING")) {
            runs = 1 - runs;
            mode = "IDLE";
        } else if (mode.equals("INSTALLING")) {
            beginPieces();
        }
        if (!sound(runs) && !sound(1 - runs)) {
            return -5;
        }
        if (!sound(runs)) {
            runs = 1 - runs;
            mode = "IDLE";
        }
        return runs;
    }

    int confirm() {
        if (!mode.equals("TRYING")) {
            return -4;
        }
        mode = "IDLE";
        return 0;
    }

    int damage(int slot, int i, int b) {
        if (slot(slot, i) < 0 || !within(0, b, 255)) {
            return -1;
        }
        slots.get(slot).set(i, b);
        return 0;
    }

    int slot(int slot, int i) {
        if (!within(0, slot, 1) || !within(0, i, slots.get(slot).size() - 1)) {
            return -1;
        }
        return slots.get(slot).get(i);
    }

    int state(int what) {
        if (!within(0, what, 10)) {
            return -1;
        }
        int there = mode.equals("FETCHING") ? arrived.size() : underWay() ? blocks() : 0;
        int[] numbers = {MODES.indexOf(mode), runs, mode.equals("TRYING") ? tries : 0, marks[0],
            marks[1], slots.get(0).size(), slots.get(1).size(), underWay() ? target : 0, there,
            newest(), draft.size()};
        return numbers[what];
    }

    boolean sound(int slot) {
        if (!within(0, slot, 1)) {
            return false;
        }
        List<Integer> row = slots.get(slot);
        List<Integer> due = versions.get(marks[slot]);
        return row.size() == due.size() && check(row) == check(due);
    }

    private static int check(List<Integer> row) {
        long c = 17;
        for (int b : row) {
            c = (c * 31 + b) % 65536;
        }
        return (int) c;
    }
}

/** Promises 5 to 7: patch, patchByte, saved. */
public final class PatchTest {
    public static void main(String[] args) {
        copiesOfFourOrMore();
        longestAndLeast();
        looseRows();
        looseBetweenCopies();
        fromItself();
        wholeRow();
        refusals();
        patchesStay();
        oneAfterTheOther();
        Due.end();
    }

    private static void copiesOfFourOrMore() {
        TwoSlots x = Due.with(Due.row(1, 2, 3, 4, 5, 6), Due.row(2, 3, 4), Due.row(2, 3, 4, 5),
                Due.row(3, 4, 5, 6, 7));
        Due.patchIs(x, 2, 1, 3, 2, 3, 4);
        Due.due("saved of 3", x.saved(2, 1), 0);
        Due.patchIs(x, 3, 1, 32, 1);
        Due.due("saved of 4", x.saved(3, 1), 4);
        Due.patchIs(x, 4, 1, 32, 2, 1, 7);
        Due.due("saved at the old one's end", x.saved(4, 1), 4);
        Due.patchIs(x, 1, 3, 1, 1, 32, 0, 1, 6);
        Due.due("saved the other way", x.saved(1, 3), 4);
    }

    private static void longestAndLeast() {
        TwoSlots x = Due.with(Due.row(1, 2, 3, 4, 0, 1, 2, 3, 4, 5, 0, 1, 2, 3, 4, 5),
                Due.row(1, 2, 3, 4, 5), Due.row(7, 7, 7, 7, 7, 7), Due.row(7, 7, 7, 7, 7),
                Due.row(1, 2, 3, 4, 5, 6, 7, 8), Due.row(3, 4, 5, 6, 1, 2, 3, 4, 5, 9));
        Due.patchIs(x, 2, 1, 33, 5);
        Due.patchIs(x, 4, 3, 33, 0);
        Due.patchIs(x, 3, 4, 33, 0, 1, 7);
        Due.patchIs(x, 6, 5, 32, 2, 33, 0, 1, 9);
        Due.due("saved(6, 5)", x.saved(6, 5), 9);
        TwoSlots y = Due.with(Due.row(1, 2, 3, 4, 9, 2, 3, 4, 5, 6, 7), Due.row(1, 2, 3, 4, 5, 6, 7));
        // The match at 0 is taken though one byte on a longer one begins.
        Due.patchIs(y, 2, 1, 32, 0, 3, 5, 6, 7);
        Due.due("saved(2, 1)", y.saved(2, 1), 4);
    }

    private static void looseRows() {
        int[] sizes = {1, 30, 31, 32, 40};
        for (int size : sizes) {
            int[] bytes = Due.count(100, size);
            TwoSlots x = Due.with(bytes);
            int first = Math.min(31, size);
            int[] rest = size > 31
                    ? Due.join(Due.row(size - 31), Due.count(131, size - 31)) : Due.row();
            Due.patchIs(x, 1, 0, Due.join(Due.row(first), Due.count(100, first), rest));
            Due.due("saved from nothing", x.saved(1, 0), 0);
        }
    }

    private static void looseBetweenCopies() {
        int[] old = Due.count(1, 8);
        int[] made = Due.join(Due.count(100, 16), Due.count(5, 4), Due.count(200, 20));
        TwoSlots x = Due.with(old, made);
        Due.patchIs(x, 2, 1, Due.join(Due.row(16), Due.count(100, 16), Due.row(32, 4),
                Due.row(20), Due.count(200, 20)));
        Due.due("saved(2, 1)", x.saved(2, 1), 4);
        int[] late = Due.join(Due.count(100, 33), Due.count(1, 7));
        Due.publish(x, late);
        Due.patchIs(x, 3, 1, Due.join(Due.row(31), Due.count(100, 31), Due.row(2, 131, 132),
                Due.row(35, 0)));
        Due.due("saved(3, 1)", x.saved(3, 1), 7);
    }

    private static void fromItself() {
        TwoSlots x = Due.with(Due.row(5, 6, 7), Due.row(5, 6, 7, 8), Due.row(9));
        Due.patchIs(x, 1, 1, 3, 5, 6, 7);
        Due.patchIs(x, 2, 2, 32, 0);
        Due.patchIs(x, 3, 3, 1, 9);
        Due.due("saved(1, 1)", x.saved(1, 1), 0);
        Due.due("saved(2, 2)", x.saved(2, 2), 4);
    }

    private static void wholeRow() {
        TwoSlots x = Due.with(Due.count(1, 40), Due.join(Due.count(37, 4), Due.count(1, 36)));
        Due.patchIs(x, 1, 1, 68, 0);
        Due.due("saved(1, 1)", x.saved(1, 1), 40);
        Due.patchIs(x, 2, 1, 32, 36, 64, 0);
        Due.patchIs(x, 1, 2, 64, 4, 32, 0);
    }

    private static void refusals() {
        TwoSlots x = Due.with(Due.row(1, 2), Due.row(3, 4));
        int[][] bad = {{0, 0}, {0, 1}, {3, 0}, {1, 3}, {-1, 0}, {1, -1}, {7, 1}, {1, 7},
            {Integer.MIN_VALUE, 0}, {1, Integer.MIN_VALUE}, {Integer.MAX_VALUE, 0},
            {1, Integer.MAX_VALUE}};
        for (int[] b : bad) {
            String pair = "(" + b[0] + ", " + b[1] + ")";
            Due.due("patch" + pair, x.patch(b[0], b[1]), TwoSlots.REFUSED);
            Due.due("patchByte 0 of " + pair, x.patchByte(b[0], b[1], 0), TwoSlots.REFUSED);
            Due.due("saved" + pair, x.saved(b[0], b[1]), TwoSlots.REFUSED);
        }
        int[] places = {-1, 3, 42, Integer.MIN_VALUE, Integer.MAX_VALUE};
        for (int i : places) {
            Due.due("patchByte(1, 0, " + i + ")", x.patchByte(1, 0, i), TwoSlots.REFUSED);
        }
        Due.patchIs(x, 1, 0, 2, 1, 2);
    }

    private static void patchesStay() {
        TwoSlots x = Due.with(Due.count(1, 6));
        Due.patchIs(x, 1, 1, 34, 0);
        Due.publish(x, 3, 4, 5, 6, 1);
        Due.patchIs(x, 1, 2, 2, 1, 2, 32, 0);
        Due.patchIs(x, 2, 1, 32, 2, 1, 1);
        Due.makeTrying(x, 1);
        Due.due("damage", x.damage(1, 0, 99), 0);
        Due.patchIs(x, 1, 1, 34, 0);
        Due.patchIs(x, 2, 1, 32, 2, 1, 1);
        Due.due("saved(2, 1)", x.saved(2, 1), 4);
        Due.due("saved(1, 0)", x.saved(1, 0), 0);
    }

    /** Each answer is of the patch that is asked for, whichever was asked for before. */
    private static void oneAfterTheOther() {
        TwoSlots x = Due.with(Due.count(1, 5), Due.count(1, 6), Due.count(2, 5));
        int[][] lengths = {{}, {6, 2, 2, 4}, {7, 4, 2, 4}, {6, 4, 2, 2}};
        int[][] copies = {{}, {0, 5, 5, 4}, {0, 5, 6, 5}, {0, 4, 5, 5}};
        for (int first = 0; first < 12; first++) {
            for (int second = 0; second < 12; second++) {
                x.patch(1 + first / 4, first % 4);
                int version = 1 + second / 4;
                int old = second % 4;
                String pair = "(" + version + ", " + old + ")";
                Due.due("patch" + pair, x.patch(version, old), lengths[version][old]);
                x.patch(1 + first / 4, first % 4);
                Due.due("saved" + pair, x.saved(version, old), copies[version][old]);
            }
        }
    }
}

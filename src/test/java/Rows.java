/** Rows of bytes for the tests. */
final class Rows {
    private Rows() {
    }

    static int[] row(int... bytes) {
        return bytes;
    }

    /** The bytes first, first + 1, ... */
    static int[] count(int first, int many) {
        int[] row = new int[many];
        for (int i = 0; i < many; i++) {
            row[i] = first + i;
        }
        return row;
    }

    static int[] join(int[]... rows) {
        int many = 0;
        for (int[] row : rows) {
            many += row.length;
        }
        int[] all = new int[many];
        int at = 0;
        for (int[] row : rows) {
            System.arraycopy(row, 0, all, at, row.length);
            at += row.length;
        }
        return all;
    }
}

/** What the terms say of patches, and promises 5 to 7: patch, patchByte, saved. */
public final class PatchTest {
    private static final int LEAST = Integer.MIN_VALUE;
    private static final int MOST = Integer.MAX_VALUE;

    public static void main(String[] args) {
        fourBytesAreACopy();
        copiesOfAnyLength();
        copiesFromAnyPlace();
        theLongestMatch();
        theLeastPlace();
        fromWhereTheLastCopyEnds();
        looseBytesTogether();
        looseBytesBetweenCopies();
        fromItself();
        fromVersionZero();
        patchLengths();
        patchRefuses();
        patchByteRefuses();
        savedCounts();
        savedRefuses();
        oneAfterTheOther();
        patchesAreOfVersionsNotOfSlots();
        Due.end();
    }

    private static void fourBytesAreACopy() {
        Due.sentence("Terms", "Is it 4 bytes long or more, it becomes a COPY");
        Run x = Run.with(Rows.count(1, 8), Rows.row(3, 4, 5), Rows.row(3, 4, 5, 6),
                Rows.row(3, 4, 5, 6, 7), Rows.row(99, 3, 4, 5, 99), Rows.row(99, 3, 4, 5, 6, 99));
        x.patchIs(2, 1, 3, 3, 4, 5);
        x.patchIs(3, 1, 32, 2);
        x.patchIs(4, 1, 33, 2);
        x.patchIs(5, 1, 5, 99, 3, 4, 5, 99);
        x.patchIs(6, 1, 1, 99, 32, 2, 1, 99);
        // Of an old one with 3 bytes nothing can be copied, of one with 4 bytes all can.
        x.patchIs(1, 2, 8, 1, 2, 3, 4, 5, 6, 7, 8);
        x.patchIs(1, 3, 2, 1, 2, 32, 0, 2, 7, 8);
    }

    private static void copiesOfAnyLength() {
        Due.sentence("Terms", "the byte 28 + how many, then the place in the OLD");
        for (int many = 4; many <= 40; many++) {
            Run x = Run.with(Rows.count(1, 40));
            x.due(many, "reuse", 1, 40 - many, many);
            x.due(2, "publish");
            x.patchIs(2, 1, 28 + many, 40 - many);
            x.due(many, "saved", 2, 1);
        }
    }

    private static void copiesFromAnyPlace() {
        Due.sentence("Terms", "the byte 28 + how many, then the place in the OLD");
        for (int place = 0; place <= 36; place++) {
            Run x = Run.with(Rows.count(1, 40));
            x.due(4, "reuse", 1, place, 4);
            x.due(5, "feed", 200);
            x.due(2, "publish");
            x.patchIs(2, 1, 32, place, 1, 200);
        }
    }

    private static void theLongestMatch() {
        Due.sentence("Terms", "the longest row of bytes that begins at p in the version and stands"
                + " anywhere in the OLD too");
        // 4 bytes at place 0, 6 at place 5, 5 at place 12, which ends the row.
        int[] old = {1, 2, 3, 4, 0, 1, 2, 3, 4, 5, 6, 0, 1, 2, 3, 4, 5};
        Run x = Run.with(old, Rows.row(1, 2, 3, 4, 5, 6, 7), Rows.row(1, 2, 3, 4, 5),
                Rows.row(1, 2, 3, 4, 9), Rows.row(1, 2, 3, 4, 5, 7), Rows.row(0, 1, 2, 3, 4, 5, 0));
        x.patchIs(2, 1, 34, 5, 1, 7);
        x.patchIs(3, 1, 33, 5);
        x.patchIs(4, 1, 32, 0, 1, 9);
        x.patchIs(5, 1, 33, 5, 1, 7);
        x.patchIs(6, 1, 34, 4, 1, 0);
        // It ends with the old one's last byte; what would stand behind does not count.
        Run y = Run.with(Rows.row(9, 0, 0, 0, 0), Rows.row(0, 0, 0, 0, 0, 0));
        y.patchIs(2, 1, 32, 1, 2, 0, 0);
        y.patchIs(1, 2, 1, 9, 32, 0);
        // Nor does what would stand before its first byte.
        Run z = Run.with(Rows.row(1, 2, 3), Rows.row(0, 1, 2, 3));
        z.patchIs(2, 1, 4, 0, 1, 2, 3);
    }

    private static void theLeastPlace() {
        Due.sentence("Terms", "of the places in the OLD where it does, the least.");
        Run x = Run.with(Rows.row(5, 1, 2, 3, 4, 6, 1, 2, 3, 4, 7, 1, 2, 3, 4),
                Rows.row(1, 2, 3, 4), Rows.row(1, 2, 3, 4, 7), Rows.row(7, 7, 7, 7, 7, 7, 7),
                Rows.row(7, 7, 7, 7, 7));
        x.patchIs(2, 1, 32, 1);
        x.patchIs(3, 1, 33, 6);
        x.patchIs(5, 4, 33, 0);
        x.patchIs(4, 5, 33, 0, 2, 7, 7);
    }

    private static void fromWhereTheLastCopyEnds() {
        Due.sentence("Terms",
                "and p grows by how many; else the byte at p is LOOSE, and p grows by 1.");
        Run x = Run.with(Rows.row(1, 2, 3, 4, 9, 2, 3, 4, 5, 6, 7), Rows.count(1, 7),
                Rows.join(Rows.count(2, 3), Rows.count(1, 4)), Rows.row(8, 2, 3, 4, 5, 6));
        // The match at 0 is taken though one byte on a longer one begins.
        x.patchIs(2, 1, 32, 0, 3, 5, 6, 7);
        x.due(4, "saved", 2, 1);
        x.patchIs(3, 1, 3, 2, 3, 4, 32, 0);
        x.patchIs(4, 1, 1, 8, 33, 5);
        // The same bytes may be copied again and again.
        Run y = Run.with(Rows.count(1, 4), Rows.join(Rows.count(1, 4), Rows.count(1, 4),
                Rows.count(1, 4)));
        y.patchIs(2, 1, 32, 0, 32, 0, 32, 0);
        y.due(12, "saved", 2, 1);
    }

    private static void looseBytesTogether() {
        Due.sentence("Terms", "Loose bytes one behind the other, at most 31 together, become the"
                + " byte how many, then themselves; more begin anew.");
        for (int many = 1; many <= 40; many++) {
            Run x = Run.with(Rows.count(100, many));
            x.patchIs(1, 0, looseFrom100(many));
        }
    }

    private static int[] looseFrom100(int many) {
        if (many <= 31) {
            return Rows.join(Rows.row(many), Rows.count(100, many));
        }
        return Rows.join(Rows.row(31), Rows.count(100, 31), Rows.row(many - 31),
                Rows.count(131, many - 31));
    }

    private static void looseBytesBetweenCopies() {
        Due.sentence("Terms", "Loose bytes one behind the other, at most 31 together, become the"
                + " byte how many, then themselves; more begin anew.");
        // 16 and 20 are more than 31, but a copy stands between them.
        Run x = Run.with(Rows.count(1, 8),
                Rows.join(Rows.count(100, 16), Rows.count(5, 4), Rows.count(200, 20)));
        x.patchIs(2, 1, Rows.join(Rows.row(16), Rows.count(100, 16), Rows.row(32, 4, 20),
                Rows.count(200, 20)));
        int[] sizes = {30, 31, 32, 33, 36};
        for (int size : sizes) {
            Run y = Run.with(Rows.count(1, 4), Rows.join(Rows.count(100, size), Rows.count(1, 4)));
            y.patchIs(2, 1, Rows.join(looseFrom100(size), Rows.row(32, 0)));
        }
    }

    private static void fromItself() {
        Due.sentence("Terms",
                "(The patch of a version from itself is one copy, or loose bytes if it"
                + " is short.)");
        for (int many = 1; many <= 40; many++) {
            Run x = Run.with(Rows.count(50, many));
            int[] loose = Rows.join(Rows.row(many), Rows.count(50, many));
            x.patchIs(1, 1, many < 4 ? loose : Rows.row(28 + many, 0));
            x.due(many < 4 ? 0 : many, "saved", 1, 1);
        }
        Run y = Run.with(Rows.row(6, 6, 6, 6, 6, 6));
        y.patchIs(1, 1, 34, 0);
    }

    private static void fromVersionZero() {
        Due.sentence("Promise 5: patch", "(0 to the number of versions both, the first one not 0;"
                + " else REFUSED)");
        // In the empty row nothing stands, not even what a row holds before its first byte.
        Run x = Run.with(Rows.row(0, 0, 0, 0, 0));
        x.patchIs(1, 0, 5, 0, 0, 0, 0, 0);
        x.due(0, "saved", 1, 0);
    }

    private static void patchLengths() {
        Due.sentence("Promise 5: patch",
                "How many bytes the patch of a version has from an old one");
        Run x = Run.with(Rows.count(1, 40), Rows.row(200), Rows.count(1, 31), Rows.count(1, 32));
        x.due(42, "patch", 1, 0);
        x.due(42, "patch", 1, 2);
        x.due(2, "patch", 2, 1);
        x.due(2, "patch", 1, 1);
        x.due(32, "patch", 3, 0);
        x.due(34, "patch", 4, 0);
        x.due(2 + 10, "patch", 1, 3);
    }

    private static Run twoVersions() {
        return Run.with(Rows.row(1, 2), Rows.row(3, 4));
    }

    private static final int[][] NO_PATCHES = {{0, 0}, {0, 1}, {0, 2}, {3, 0}, {3, 1}, {1, 3},
        {2, 3}, {-1, 0}, {-1, 1}, {1, -1}, {2, -1}, {6, 1}, {7, 1}, {1, 6}, {1, 7}, {3, 3},
        {-1, -1}, {LEAST, 0}, {1, LEAST}, {MOST, 0}, {1, MOST}, {MOST, MOST}, {LEAST, LEAST}};

    private static void patchRefuses() {
        Due.sentence("Promise 5: patch", "(0 to the number of versions both, the first one not 0;"
                + " else REFUSED)");
        for (int[] pair : NO_PATCHES) {
            twoVersions().refuses(TwoSlots.REFUSED, "patch", pair[0], pair[1]);
        }
        int[][] least = {{1, 0}, {1, 2}, {2, 0}, {2, 2}, {2, 1}, {1, 1}};
        for (int[] pair : least) {
            twoVersions().due(3, "patch", pair[0], pair[1]);
        }
        Run six = Run.withSix();
        six.patchIs(6, 6, 1, 6);
        six.refuses(TwoSlots.REFUSED, "patch", 7, 0);
        six.refuses(TwoSlots.REFUSED, "patch", 1, 7);
        // A draft is no version yet.
        Run draft = new Run();
        draft.due(1, "feed", 1);
        draft.refuses(TwoSlots.REFUSED, "patch", 1, 0);
        draft.due(1, "publish");
        draft.due(2, "patch", 1, 0);
    }

    private static void patchByteRefuses() {
        Due.sentence("Promise 6: patchByte", "Byte i of that patch; REFUSED if there is none.");
        twoVersions().due(2, "patchByte", 1, 0, 0);
        twoVersions().due(2, "patchByte", 1, 0, 2);
        int[] none = {-1, 3, 4, 41, 42, 43, -42, 65536, LEAST, MOST};
        for (int i : none) {
            twoVersions().refuses(TwoSlots.REFUSED, "patchByte", 1, 0, i);
        }
        for (int[] pair : NO_PATCHES) {
            twoVersions().refuses(TwoSlots.REFUSED, "patchByte", pair[0], pair[1], 0);
        }
        Run x = Run.with(Rows.count(100, 40));
        x.due(31, "patchByte", 1, 0, 0);
        x.due(9, "patchByte", 1, 0, 32);
        x.due(139, "patchByte", 1, 0, 41);
        x.refuses(TwoSlots.REFUSED, "patchByte", 1, 0, 42);
        // The shorter patch behind the longer one has no bytes of it.
        x.due(0, "patchByte", 1, 1, 1);
        x.refuses(TwoSlots.REFUSED, "patchByte", 1, 1, 2);
    }

    private static void savedCounts() {
        Due.sentence("Promise 7: saved", "How many bytes of that patch come out of copies.");
        Run x = Run.with(Rows.count(1, 40), Rows.row(1, 2, 3), Rows.row(1, 2, 3, 4),
                Rows.row(1, 2, 3, 4, 99, 5, 6, 7, 8, 9), Rows.row(99));
        x.due(40, "saved", 1, 1);
        x.due(0, "saved", 1, 0);
        x.due(0, "saved", 2, 1);
        x.due(4, "saved", 3, 1);
        x.due(9, "saved", 4, 1);
        x.due(0, "saved", 5, 1);
        x.due(4, "saved", 1, 3);
        x.due(9, "saved", 1, 4);
    }

    private static void savedRefuses() {
        Due.sentence("Promise 7: saved", "How many bytes of that patch come out of copies.");
        for (int[] pair : NO_PATCHES) {
            twoVersions().refuses(TwoSlots.REFUSED, "saved", pair[0], pair[1]);
        }
        twoVersions().due(0, "saved", 2, 2);
    }

    /** Each answer is of the patch that is asked for, whichever was asked for before. */
    private static void oneAfterTheOther() {
        Due.sentence("Promise 6: patchByte", "Byte i of that patch; REFUSED if there is none.");
        int[][] lengths = {{}, {6, 2, 2, 4}, {7, 4, 2, 4}, {6, 4, 2, 2}};
        int[][] copies = {{}, {0, 5, 5, 4}, {0, 5, 6, 5}, {0, 4, 5, 5}};
        int[][] heads = {{}, {5, 33, 33, 1}, {6, 33, 34, 1}, {5, 32, 33, 33}};
        for (int first = 0; first < 12; first++) {
            Run x = Run.with(Rows.count(1, 5), Rows.count(1, 6), Rows.count(2, 5));
            for (int second = 0; second < 12; second++) {
                int version = 1 + second / 4;
                int old = second % 4;
                x.call("patch", 1 + first / 4, first % 4);
                x.due(lengths[version][old], "patch", version, old);
                x.call("patch", 1 + first / 4, first % 4);
                x.due(copies[version][old], "saved", version, old);
                x.call("patch", 1 + first / 4, first % 4);
                x.due(heads[version][old], "patchByte", version, old, 0);
            }
        }
    }

    private static void patchesAreOfVersionsNotOfSlots() {
        Due.sentence("Terms", "PATCH of a version from another one (the OLD)");
        Run x = Run.with(Rows.count(1, 6));
        x.patchIs(1, 1, 34, 0);
        x.publish(3, 4, 5, 6, 1);
        x.patchIs(1, 2, 2, 1, 2, 32, 0);
        x.patchIs(2, 1, 32, 2, 1, 1);
        x.makeTrying(1);
        x.due(0, "damage", 1, 0, 99);
        x.patchIs(1, 1, 34, 0);
        x.patchIs(2, 1, 32, 2, 1, 1);
        x.due(4, "saved", 2, 1);
        x.due(0, "saved", 1, 0);
    }
}

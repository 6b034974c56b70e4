/** Promise 3: the reduced six, the symmetry, the determinant and the count of steps. */
public final class ReducedTest {
    private static final Check CHECK = new Check();

    public static void main(String[] args) {
        dueSteps();
        dueTies();
        dueKnown();
        dueSymmetries();
        dueNothing();
        CHECK.end();
    }

    private static void due(int[] s, long... want) {
        CellBench bench = new CellBench();
        CHECK.due("cell" + java.util.Arrays.toString(s), bench.cell(s[0], s[1], s[2], s[3], s[4], s[5]), 0);
        CHECK.dueReduced(bench, 0, want);
    }

    /** Cells that need one kind of step, worked out by hand. */
    private static void dueSteps() {
        // (1) and (2), in both their ways; a 0 among the mixed ones turns the others below 0.
        due(new int[] {3, 2, 1, 0, 0, 0}, 1, 2, 3, 0, 0, 0, 8, 6, 0);
        due(new int[] {5, 5, 9, 2, 1, 0}, 5, 5, 9, -1, -2, 0, 2, 200, 0);
        due(new int[] {5, 5, 9, 1, 2, 0}, 5, 5, 9, -1, -2, 0, 2, 200, 0);
        due(new int[] {5, 9, 9, 0, 1, 2}, 5, 9, 9, 0, -1, -2, 2, 360, 0);
        due(new int[] {5, 9, 9, 0, 2, 1}, 5, 9, 9, 0, -1, -2, 2, 360, 0);
        // (3) and (4).
        due(new int[] {10, 11, 12, -1, -2, 3}, 10, 11, 12, 1, 2, 3, 2, 1170, 0);
        due(new int[] {10, 11, 12, 1, 2, -3}, 10, 11, 12, -1, -2, -3, 2, 1146, 0);
        due(new int[] {10, 11, 12, 0, -2, 3}, 10, 11, 12, 0, -2, -3, 2, 1168, 0);
        due(new int[] {10, 11, 12, -1, 0, 3}, 10, 11, 12, -1, 0, -3, 2, 1202, 0);
        due(new int[] {10, 11, 12, 1, -2, 0}, 10, 11, 12, -1, -2, 0, 2, 1266, 0);
        due(new int[] {10, 11, 12, 0, 0, 3}, 10, 11, 12, 0, 0, -3, 4, 1212, 0);
        // (5), (6), (7) once each: an edge longer by another one than it need be.
        due(new int[] {9, 10, 21, 10, 0, 0}, 9, 10, 11, 0, 0, 0, 8, 990, 1);
        due(new int[] {9, 10, 20, 0, 9, 0}, 9, 10, 11, 0, 0, 0, 8, 990, 1);
        due(new int[] {9, 19, 21, 0, 0, 9}, 9, 10, 21, 0, 0, 0, 8, 1890, 1);
        due(new int[] {9, 10, 21, -10, 0, 0}, 9, 10, 11, 0, 0, 0, 8, 990, 1);
        // (8): all below 0, and the sum of the three edges shorter than the third.
        due(new int[] {10, 11, 12, -5, -4, -4}, 7, 10, 11, -4, -2, -2, 2, 542, 1);
        due(new int[] {10, 10, 10, -4, -4, -3}, 8, 10, 10, -3, -3, -3, 4, 494, 2);
    }

    /** Where a mixed one is just as large as it may be, the steps (5) to (8) still choose. */
    private static void dueTies() {
        due(new int[] {9, 10, 12, 5, 1, 3}, 9, 10, 12, 5, 2, 3, 2, 767, 1);
        due(new int[] {9, 10, 12, -5, -1, -3}, 9, 10, 12, 5, 4, 3, 2, 707, 1);
        due(new int[] {9, 10, 12, 5, 2, 3}, 9, 10, 12, 5, 2, 3, 2, 767, 0);
        due(new int[] {10, 11, 12, 1, 5, 3}, 10, 11, 12, 2, 5, 3, 2, 957, 1);
        due(new int[] {10, 11, 12, -1, -5, -3}, 10, 11, 12, 4, 5, 3, 2, 897, 1);
        due(new int[] {10, 11, 12, 1, 3, 5}, 10, 11, 12, 2, 3, 5, 2, 941, 1);
        due(new int[] {10, 11, 12, -1, -3, -5}, 10, 11, 12, 4, 3, 5, 2, 881, 1);
        due(new int[] {10, 12, 13, -5, -2, -4}, 10, 12, 13, -3, -4, -4, 2, 974, 1);
        due(new int[] {10, 12, 13, -3, -4, -4}, 10, 12, 13, -3, -4, -4, 2, 974, 0);
        due(new int[] {4, 9, 16, 0, 2, 0}, 4, 9, 16, 0, -2, 0, 8, 540, 0);
        due(new int[] {4, 9, 16, 1, 2, 1}, 4, 9, 16, 1, 2, 1);
    }

    private static void dueKnown() {
        // The example of Krivy and Gruber's paper, here times 4.
        due(new int[] {36, 108, 16, -10, -8, -44}, 16, 36, 36, 18, 6, 8);
        // 99 times the first edge to be taken away, one at a time.
        due(new int[] {1, 1, 10_000, 0, 99, 0}, 1, 1, 199, 0, 0, 0, 16, 199, 99);
        due(new int[] {1, 1, 10_000, 0, -99, 0}, 1, 1, 199, 0, 0, 0, 16, 199, 99);
        due(new int[] {10_000, 10_000, 10_000, 0, 0, 0}, 10_000, 10_000, 10_000, 0, 0, 0, 48, 1_000_000_000_000L, 0);
    }

    private static void dueSymmetry(int want, int... s) {
        CellBench bench = new CellBench();
        bench.cell(s[0], s[1], s[2], s[3], s[4], s[5]);
        CHECK.due("symmetry of " + java.util.Arrays.toString(s), bench.reduced(0, 6), want);
    }

    private static void dueSymmetries() {
        dueSymmetry(48, 7, 7, 7, 0, 0, 0);
        dueSymmetry(48, 10, 10, 10, 5, 5, 5);
        dueSymmetry(48, 3, 3, 3, -1, -1, -1);
        dueSymmetry(24, 10, 10, 17, 0, 0, 5);
        dueSymmetry(24, 10, 10, 17, 0, 0, -5);
        dueSymmetry(16, 10, 10, 17, 0, 0, 0);
        dueSymmetry(16, 10, 17, 17, 0, 0, 0);
        dueSymmetry(12, 10, 10, 10, 2, 2, 2);
        dueSymmetry(12, 10, 10, 10, -2, -2, -2);
        dueSymmetry(8, 10, 11, 12, 0, 0, 0);
        dueSymmetry(4, 10, 11, 12, 0, 3, 0);
        dueSymmetry(2, 10, 11, 12, 1, 2, 3);
        // The symmetry is the reduced six's: the same cell told by far longer edges.
        dueSymmetry(48, 1, 10, 17, 12, 4, 3);
    }

    private static void dueNothing() {
        CellBench bench = new CellBench();
        bench.cell(10, 11, 12, 1, 2, 3);
        for (int what : new int[] {-1, 9, 10, Integer.MAX_VALUE, Integer.MIN_VALUE}) {
            CHECK.due("reduced(0, " + what + ")", bench.reduced(0, what), 0);
        }
        for (int cell : new int[] {-1, 1, 40, Integer.MAX_VALUE, Integer.MIN_VALUE}) {
            for (int what = 0; what <= 8; what++) {
                CHECK.due("reduced(" + cell + ", " + what + ")", bench.reduced(cell, what), 0);
            }
        }
    }
}

/** Promise 8: multiples that two cells have in common. */
public final class CommonTest {
    private static final Check CHECK = new Check();
    private static final int MIN = Integer.MIN_VALUE;
    private static final int MAX = Integer.MAX_VALUE;

    public static void main(String[] args) {
        CellBench bench = new CellBench();
        bench.cell(1, 1, 1, 0, 0, 0);
        bench.cell(1, 1, 4, 0, 0, 0);
        bench.cell(2, 2, 2, 1, 1, 1);
        bench.cell(1, 2, 11, 4, 3, 1);
        bench.cell(10, 11, 12, 1, 2, 3);
        dueItself(bench);
        dueTwo(bench);
        dueNothingInCommon(bench);
        dueNoCell(bench);
        dueNoMultiplier(bench);
        CHECK.end();
    }

    private static void due(CellBench bench, int cell, int n, int other, int m, int want) {
        CHECK.due("common(" + cell + ", " + n + ", " + other + ", " + m + ")",
                bench.common(cell, n, other, m), want);
    }

    /** All the different multiples: not all the edges that come to them. */
    private static void dueItself(CellBench bench) {
        CHECK.sentence("Promise 8", "How many of the different MULTIPLES of a CELL by n");
        due(bench, 0, 1, 0, 1, 1);
        due(bench, 0, 2, 0, 2, 3);
        due(bench, 0, 4, 0, 4, 9);
        for (int n = 1; n <= 12; n++) {
            due(bench, 0, n, 0, n, bench.multiples(0, n));
            due(bench, 4, n, 4, n, bench.multiples(4, n));
        }
        CellBench full = new CellBench();
        full.cell(9_001, 9_437, 9_973, 1_013, 2_203, 3_301);
        full.cell(9_001, 9_437, 9_973, 1_013, 2_203, 3_301);
        due(full, 0, 12, 0, 12, 455);
        due(full, 0, 12, 1, 12, 455);
    }

    private static void dueTwo(CellBench bench) {
        CHECK.sentence("Promise 8", "are MULTIPLES of another one by m, too.");
        // Cells 1 and 2 are multiples of cell 0 by 2; cell 3 is cell 0 told by other edges.
        due(bench, 0, 2, 1, 1, 1);
        due(bench, 1, 1, 0, 2, 1);
        due(bench, 0, 2, 2, 1, 1);
        due(bench, 0, 4, 1, 2, bench.multiples(1, 2));
        due(bench, 1, 6, 0, 12, bench.multiples(1, 6));
        due(bench, 0, 12, 1, 6, bench.multiples(1, 6));
        due(bench, 0, 3, 3, 3, 3);
        long[] first = {1, 1, 4, 0, 0, 0};
        long[] second = {2, 2, 2, 1, 1, 1};
        for (int n = 1; n <= 6; n++) {
            int want = Plain.common(first, n, second, n);
            due(bench, 1, n, 2, n, want);
            due(bench, 2, n, 1, n, want);
        }
        CHECK.due("some, but not all", bench.common(1, 2, 2, 2) > 0
                && bench.common(1, 2, 2, 2) < bench.multiples(1, 2), true);
    }

    /** The volumes differ, so there are none in common: 0, not NONE. */
    private static void dueNothingInCommon(CellBench bench) {
        CHECK.sentence("Promise 8", "How many of the different MULTIPLES of a CELL by n are MULTIPLES of another one");
        due(bench, 0, 2, 0, 3, 0);
        due(bench, 0, 1, 0, 12, 0);
        due(bench, 0, 12, 4, 12, 0);
        due(bench, 1, 1, 2, 1, 0);
    }

    private static void dueNoCell(CellBench bench) {
        CHECK.sentence("Promise 8", "NONE when there are no such ones");
        for (int wrong : new int[] {-1, 5, 39, 40, MAX, MIN}) {
            due(bench, wrong, 1, 0, 1, -1);
            due(bench, 0, 1, wrong, 1, -1);
            due(bench, wrong, 1, wrong, 1, -1);
            due(bench, wrong, 0, 0, 1, -1);
        }
        due(bench, 4, 1, 4, 1, 1);
        CellBench empty = new CellBench();
        due(empty, 0, 1, 0, 1, -1);
        empty.cell(1, 1, 1, 0, 0, 0);
        due(empty, 0, 1, 1, 1, -1);
        due(empty, 1, 1, 0, 1, -1);
        due(empty, 0, 1, 0, 1, 1);
    }

    private static void dueNoMultiplier(CellBench bench) {
        CHECK.sentence("Promise 8", "or n or m isn't 1 .. 12.");
        for (int wrong : new int[] {0, -1, -12, 13, 65_537, MAX, MIN}) {
            due(bench, 0, wrong, 0, 1, -1);
            due(bench, 0, 1, 0, wrong, -1);
            due(bench, 0, wrong, 0, wrong, -1);
            // What was asked in vain leaves the next answer as it is.
            due(bench, 0, 1, 0, 1, 1);
            due(bench, 0, 12, 0, 12, bench.multiples(0, 12));
        }
    }
}

/** Promises 6 and 7: the different multiples, their order, and how many edges come to each. */
public final class MultiplesTest {
    private static final Check CHECK = new Check();
    /** How many edges p .. u there are by n. */
    private static final int[] EDGES = {0, 1, 7, 13, 35, 31, 91, 57, 155, 130, 217, 133, 455};

    public static void main(String[] args) {
        dueCubic();
        dueAllDifferent();
        dueLargest();
        dueInTurns();
        dueNothing();
        CHECK.end();
    }

    private static void dueCubic() {
        CellBench bench = new CellBench();
        bench.cell(1, 1, 1, 0, 0, 0);
        CHECK.due("multiples(0, 1)", bench.multiples(0, 1), 1);
        CHECK.dueMultiple(bench, 0, 1, 0, 1, 1, 1, 0, 0, 0, 1);
        // By 2: doubled along an edge, across a face, and every second point.
        CHECK.due("multiples(0, 2)", bench.multiples(0, 2), 3);
        CHECK.dueMultiple(bench, 0, 2, 0, 1, 1, 4, 0, 0, 0, 3);
        CHECK.dueMultiple(bench, 0, 2, 1, 1, 2, 2, 0, 0, 0, 3);
        CHECK.dueMultiple(bench, 0, 2, 2, 2, 2, 2, 1, 1, 1, 1);
        CHECK.due("multiples(0, 3)", bench.multiples(0, 3), 3);
        CHECK.dueMultiple(bench, 0, 3, 0, 1, 1, 9, 0, 0, 0, 3);
        CHECK.dueMultiple(bench, 0, 3, 1, 1, 2, 5, -1, 0, 0, 6);
        CHECK.dueMultiple(bench, 0, 3, 2, 2, 2, 3, 0, 0, -1, 4);
    }

    /** A cell without symmetry: every edges p .. u make a multiple of their own. */
    private static void dueAllDifferent() {
        CellBench bench = new CellBench();
        bench.cell(9_001, 9_437, 9_973, 1_013, 2_203, 3_301);
        for (int n = 1; n <= 12; n++) {
            CHECK.due("multiples(0, " + n + ")", bench.multiples(0, n), EDGES[n]);
            for (int k = 0; k < EDGES[n]; k++) {
                CHECK.due("multiple(0, " + n + ", " + k + ", 6)", bench.multiple(0, n, k, 6), 1);
            }
            dueInOrder(bench, 0, n);
        }
    }

    private static void dueInOrder(CellBench bench, int cell, int n) {
        for (int k = 1; k < bench.multiples(cell, n); k++) {
            int side = 0;
            for (int what = 0; what < 6 && side == 0; what++) {
                side = Long.compare(bench.multiple(cell, n, k - 1, what), bench.multiple(cell, n, k, what));
            }
            CHECK.due("order of " + (k - 1) + " and " + k + " by " + n, side, -1);
        }
    }

    /** Here X Y Z is above what a long holds, and a wrong sign would tell another determinant. */
    private static void dueLargest() {
        CellBench bench = new CellBench();
        bench.cell(10_000, 10_000, 10_000, 0, 0, 0);
        bench.cell(1, 1, 1, 0, 0, 0);
        for (int n = 1; n <= 12; n++) {
            int different = bench.multiples(1, n);
            CHECK.due("multiples(0, " + n + ")", bench.multiples(0, n), different);
            int edges = 0;
            for (int k = 0; k < different; k++) {
                for (int what = 0; what < 6; what++) {
                    CHECK.due("multiple(0, " + n + ", " + k + ", " + what + ")",
                            bench.multiple(0, n, k, what), 10_000 * bench.multiple(1, n, k, what));
                }
                CHECK.due("multiple(0, " + n + ", " + k + ", 6)",
                        bench.multiple(0, n, k, 6), bench.multiple(1, n, k, 6));
                CHECK.due("determinant", determinant(bench, n, k), 1_000_000_000_000L * n * n);
                edges += bench.multiple(0, n, k, 6);
            }
            CHECK.due("all edges by " + n, edges, EDGES[n]);
        }
    }

    private static long determinant(CellBench bench, int n, int k) {
        long[] s = new long[6];
        for (int what = 0; what < 6; what++) {
            s[what] = bench.multiple(0, n, k, what);
        }
        return s[0] * s[1] * s[2] + 2 * s[3] * s[4] * s[5]
                - s[0] * s[3] * s[3] - s[1] * s[4] * s[4] - s[2] * s[5] * s[5];
    }

    /** Answers for one cell and n stay the same whatever was asked in between. */
    private static void dueInTurns() {
        CellBench bench = new CellBench();
        bench.cell(1, 1, 1, 0, 0, 0);
        for (int turn = 0; turn < 3; turn++) {
            CHECK.due("multiple(0, 2, 0, 2)", bench.multiple(0, 2, 0, 2), 4);
            CHECK.due("multiple(0, 3, 0, 2)", bench.multiple(0, 3, 0, 2), 9);
            bench.cell(2 + turn, 5, 7, 0, 0, 0);
            CHECK.due("another cell", bench.multiple(1 + turn, 3, 0, 0), 2 + turn);
            CHECK.due("common", bench.common(1 + turn, 2, 0, 2), 0);
            CHECK.due("cell", bench.cell(0, 0, 0, 0, 0, 0), -1);
            CHECK.due("multiples(0, 2)", bench.multiples(0, 2), 3);
        }
    }

    private static void dueNothing() {
        CellBench bench = new CellBench();
        bench.cell(1, 1, 1, 0, 0, 0);
        int[] wrong = {-1, 13, 40, Integer.MAX_VALUE, Integer.MIN_VALUE};
        for (int w : wrong) {
            CHECK.due("multiples(0, " + w + ")", bench.multiples(0, w), -1);
            CHECK.due("multiples(" + w + ", 2)", bench.multiples(w, 2), -1);
            CHECK.due("multiple(0, " + w + ", 0, 0)", bench.multiple(0, w, 0, 0), 0);
            CHECK.due("multiple(" + w + ", 2, 0, 0)", bench.multiple(w, 2, 0, 0), 0);
            CHECK.due("multiple(0, 2, " + w + ", 0)", bench.multiple(0, 2, w, 0), 0);
            CHECK.due("multiple(0, 2, 0, " + w + ")", bench.multiple(0, 2, 0, w), 0);
        }
        CHECK.due("multiples(0, 0)", bench.multiples(0, 0), -1);
        CHECK.due("multiples(1, 1)", bench.multiples(1, 1), -1);
        CHECK.due("multiple(0, 0, 0, 0)", bench.multiple(0, 0, 0, 0), 0);
        CHECK.due("multiple(0, 2, 3, 0)", bench.multiple(0, 2, 3, 0), 0);
        CHECK.due("multiple(0, 2, 0, 7)", bench.multiple(0, 2, 0, 7), 0);
        // Rows of the longer list asked before are not seen behind the shorter one.
        CHECK.due("multiples(0, 12) > 20", bench.multiples(0, 12) > 20, true);
        CHECK.due("multiple(0, 2, 3, 0)", bench.multiple(0, 2, 3, 0), 0);
    }
}

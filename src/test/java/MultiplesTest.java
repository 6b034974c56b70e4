/** Promises 6 and 7: the different multiples, their order, and how many edges come to each. */
public final class MultiplesTest {
    private static final Check CHECK = new Check();
    private static final int MIN = Integer.MIN_VALUE;
    private static final int MAX = Integer.MAX_VALUE;
    /** How many edges p .. u there are by n. */
    private static final int[] EDGES = {0, 1, 7, 13, 35, 31, 91, 57, 155, 130, 217, 133, 455};

    public static void main(String[] args) {
        dueEdges();
        dueReducedEach();
        dueLargest();
        dueDifferent();
        dueOrder();
        dueHowMany();
        dueNone();
        dueKth();
        dueNothing();
        dueInTurns();
        CHECK.end();
    }

    private static CellBench benchWith(int... s) {
        CellBench bench = new CellBench();
        bench.cell(s[0], s[1], s[2], s[3], s[4], s[5]);
        return bench;
    }

    private static Lasting lastingWith(int... s) {
        Lasting bench = new Lasting();
        bench.cell(s);
        return bench;
    }

    private static void dueAllEdges(Lasting bench, int cell, int n) {
        long edges = 0;
        int different = bench.now().multiples(cell, n);
        for (int k = 0; k < different; k++) {
            edges += bench.now().multiple(cell, n, k, 6);
        }
        CHECK.due("all edges of " + cell + " by " + n, edges, EDGES[n]);
    }

    private static void dueEdges() {
        CHECK.sentence("Promise 6", "edges p a, q a + r b, s a + t b + u c, with p r u = n,"
                + " all above 0, 0 <= q < p, 0 <= s < p, 0 <= t < r");
        // Without symmetry all edges p .. u make a multiple of their own: by 12 as many as can be.
        Lasting bench = lastingWith(9_001, 9_437, 9_973, 1_013, 2_203, 3_301);
        bench.cell(1, 1, 1, 0, 0, 0);
        bench.cell(10, 10, 10, 5, 5, 5);
        for (int n = 1; n <= 12; n++) {
            CHECK.due("multiples(0, " + n + ")", bench.now().multiples(0, n), EDGES[n]);
            for (int k = 0; k < EDGES[n]; k++) {
                CHECK.due("multiple(0, " + n + ", " + k + ", 6)", bench.now().multiple(0, n, k, 6), 1);
            }
            dueInOrder(bench, 0, n);
            dueAllEdges(bench, 1, n);
            dueAllEdges(bench, 2, n);
        }
    }

    private static void dueInOrder(Lasting bench, int cell, int n) {
        for (int k = 1; k < bench.now().multiples(cell, n); k++) {
            int side = 0;
            for (int what = 0; what < 6 && side == 0; what++) {
                side = Long.compare(bench.now().multiple(cell, n, k - 1, what), bench.now().multiple(cell, n, k, what));
            }
            CHECK.due("order of " + (k - 1) + " and " + k + " by " + n, side, -1);
        }
    }

    private static void dueReducedEach() {
        CHECK.sentence("Promise 7", "each, reduced");
        // By 1 there is the cell alone, reduced, however long the edges that told it.
        CellBench bench = benchWith(1, 10, 17, 12, 4, 3);
        CHECK.due("multiples(0, 1)", bench.multiples(0, 1), 1);
        CHECK.dueMultiple(bench, 0, 1, 0, 1, 1, 1, 0, 0, 0, 1);
        CHECK.dueMultiple(bench, 0, 2, 2, 2, 2, 2, 1, 1, 1, 1);
        CellBench far = benchWith(1, 1, 10_000, 0, 99, 0);
        CHECK.dueMultiple(far, 0, 1, 0, 1, 1, 199, 0, 0, 0, 1);
        CHECK.dueMultiple(far, 0, 2, 0, 1, 1, 796, 0, 0, 0, 1);
    }

    /** Here X Y Z is above what a long holds, and a wrong sign would tell another determinant. */
    private static void dueLargest() {
        CHECK.sentence("Promise 7", "each, reduced");
        Lasting bench = lastingWith(10_000, 10_000, 10_000, 0, 0, 0);
        bench.cell(1, 1, 1, 0, 0, 0);
        bench.cell(10_000, 10_000, 10_000, 5_000, 5_000, 5_000);
        bench.cell(2, 2, 2, 1, 1, 1);
        for (int n = 1; n <= 12; n++) {
            dueTimes(bench, 0, 10_000, 1, n, 1_000_000_000_000L);
            dueTimes(bench, 2, 5_000, 3, n, 500_000_000_000L);
        }
    }

    /** Cell large has the numbers of cell small, all times the same. */
    private static void dueTimes(Lasting bench, int large, long times, int small, int n, long determinant) {
        int different = bench.now().multiples(small, n);
        CHECK.due("multiples(" + large + ", " + n + ")", bench.now().multiples(large, n), different);
        for (int k = 0; k < different; k++) {
            for (int what = 0; what < 6; what++) {
                CHECK.due("multiple(" + large + ", " + n + ", " + k + ", " + what + ")",
                        bench.now().multiple(large, n, k, what), times * bench.now().multiple(small, n, k, what));
            }
            CHECK.due("multiple(" + large + ", " + n + ", " + k + ", 6)",
                    bench.now().multiple(large, n, k, 6), bench.now().multiple(small, n, k, 6));
            CHECK.due("determinant of " + k + " by " + n, determinant(bench, large, n, k), determinant * n * n);
        }
        dueAllEdges(bench, large, n);
    }

    private static long determinant(Lasting bench, int cell, int n, int k) {
        long[] s = new long[6];
        for (int what = 0; what < 6; what++) {
            s[what] = bench.now().multiple(cell, n, k, what);
        }
        return s[0] * s[1] * s[2] + 2 * s[3] * s[4] * s[5]
                - s[0] * s[3] * s[3] - s[1] * s[4] * s[4] - s[2] * s[5] * s[5];
    }

    private static void dueDifferent() {
        CHECK.sentence("Promise 7", "how many edges p .. u come to it (6)");
        CellBench bench = benchWith(1, 1, 1, 0, 0, 0);
        // By 2: doubled along an edge, across a face, and every second point.
        CHECK.due("multiples(0, 2)", bench.multiples(0, 2), 3);
        CHECK.dueMultiple(bench, 0, 2, 0, 1, 1, 4, 0, 0, 0, 3);
        CHECK.dueMultiple(bench, 0, 2, 1, 1, 2, 2, 0, 0, 0, 3);
        CHECK.dueMultiple(bench, 0, 2, 2, 2, 2, 2, 1, 1, 1, 1);
        CHECK.due("multiples(0, 3)", bench.multiples(0, 3), 3);
        CHECK.dueMultiple(bench, 0, 3, 0, 1, 1, 9, 0, 0, 0, 3);
        CHECK.dueMultiple(bench, 0, 3, 1, 1, 2, 5, -1, 0, 0, 6);
        CHECK.dueMultiple(bench, 0, 3, 2, 2, 2, 3, 0, 0, -1, 4);
        CHECK.due("multiples(0, 4)", bench.multiples(0, 4), 9);
        CHECK.dueMultiple(bench, 0, 4, 8, 3, 3, 3, -1, -1, -1, 1);
    }

    private static void dueTie(int[] s, int k, long[] lower, long[] higher) {
        CellBench bench = benchWith(s);
        CHECK.dueMultiple(bench, 0, 2, k, lower);
        CHECK.dueMultiple(bench, 0, 2, k + 1, higher);
    }

    /** Neighbours of which the first number, the second, .. the sixth is the first that differs. */
    private static void dueOrder() {
        CHECK.sentence("Promise 7", "the different ones, lowest first by A, then B, C, D, E, F.");
        dueTie(new int[] {9, 10, 4, 0, 0, 3}, 2, new long[] {4, 13, 25, -1, 0, 0}, new long[] {9, 10, 16, 0, 0, -3});
        dueTie(new int[] {9, 10, 4, 0, 0, 3}, 0, new long[] {4, 9, 37, -3, 0, 0}, new long[] {4, 10, 34, -4, 0, 0});
        dueTie(new int[] {12, 8, 8, 3, 2, 4}, 1, new long[] {8, 12, 26, 5, 3, 1}, new long[] {8, 12, 28, 2, 2, 4});
        dueTie(new int[] {4, 4, 10, 0, -2, -1}, 1,
                new long[] {4, 10, 16, -4, -2, 0}, new long[] {4, 10, 16, 2, 2, 2});
        dueTie(new int[] {11, 9, 11, 2, 3, 1}, 0,
                new long[] {9, 11, 43, -5, -3, -1}, new long[] {9, 11, 43, -5, 0, -2});
        dueTie(new int[] {4, 10, 11, 0, -2, -1}, 5,
                new long[] {11, 12, 16, 6, 4, 1}, new long[] {11, 12, 16, 6, 4, 2});
    }

    private static void dueHowMany() {
        CHECK.sentence("Promise 6", "How many different MULTIPLES by n a CELL has.");
        CellBench bench = benchWith(10, 10, 10, 5, 5, 5);
        bench.cell(1, 1, 1, 0, 0, 0);
        CHECK.due("multiples(0, 1)", bench.multiples(0, 1), 1);
        CHECK.due("multiples(0, 2)", bench.multiples(0, 2), 2);
        CHECK.due("multiples(0, 4)", bench.multiples(0, 4), 7);
        CHECK.due("multiples(0, 12)", bench.multiples(0, 12), 40);
        for (int n = 1; n <= 12; n++) {
            CHECK.due("multiples(0, " + n + ")", bench.multiples(0, n),
                    Plain.multiples(new long[] {10, 10, 10, 5, 5, 5}, n).size());
            CHECK.due("multiples(1, " + n + ")", bench.multiples(1, n),
                    Plain.multiples(new long[] {1, 1, 1, 0, 0, 0}, n).size());
        }
        CHECK.due("multiples(1, 2)", bench.multiples(1, 2), 3);
        CHECK.due("multiples(1, 4)", bench.multiples(1, 4), 9);
    }

    private static void dueNone() {
        CHECK.sentence("Promise 6", "NONE when there is none such, or n isn't 1 .. 12.");
        CellBench bench = benchWith(1, 1, 1, 0, 0, 0);
        for (int n : new int[] {0, -1, -12, 13, 14, 256 + 2, 65_536 + 2, MAX, MIN}) {
            CHECK.due("multiples(0, " + n + ")", bench.multiples(0, n), -1);
            CHECK.due("multiples(1, " + n + ")", bench.multiples(1, n), -1);
        }
        for (int cell : new int[] {-1, 1, 39, 40, MAX, MIN}) {
            CHECK.due("multiples(" + cell + ", 1)", bench.multiples(cell, 1), -1);
            CHECK.due("multiples(" + cell + ", 12)", bench.multiples(cell, 12), -1);
        }
        CHECK.due("multiples(0, 1)", bench.multiples(0, 1), 1);
        CHECK.due("multiples(0, 12) > 20", bench.multiples(0, 12) > 20, true);
    }

    private static void dueKth() {
        CHECK.sentence("Promise 7", "Of the k-th MULTIPLE A to F (what 0 to 5)");
        CellBench bench = benchWith(10, 11, 12, 1, 2, 3);
        CHECK.dueMultiple(bench, 0, 2, 0, 10, 11, 48, 2, 4, 3, 1);
        CHECK.dueMultiple(bench, 0, 2, 6, 15, 18, 25, 8, 7, 6, 1);
        CellBench full = benchWith(9_001, 9_437, 9_973, 1_013, 2_203, 3_301);
        CHECK.due("multiple(0, 12, 454, 0) > 0", full.multiple(0, 12, 454, 0) > 0, true);
        CHECK.due("multiple(0, 12, 454, 6)", full.multiple(0, 12, 454, 6), 1);
        CHECK.due("multiple(0, 12, 455, 0)", full.multiple(0, 12, 455, 0), 0);
        CHECK.due("multiple(0, 12, 455, 6)", full.multiple(0, 12, 455, 6), 0);
    }

    private static void dueNothing() {
        CHECK.sentence("Promise 7", "0 when there is none such.");
        CellBench bench = benchWith(1, 1, 1, 0, 0, 0);
        for (int what = -1; what <= 7; what++) {
            for (int w : new int[] {-1, 1, 40, MAX, MIN}) {
                CHECK.due("multiple(" + w + ", 2, 0, " + what + ")", bench.multiple(w, 2, 0, what), 0);
            }
            for (int w : new int[] {-1, 0, 13, 65_536 + 2, MAX, MIN}) {
                CHECK.due("multiple(0, " + w + ", 0, " + what + ")", bench.multiple(0, w, 0, what), 0);
            }
            for (int w : new int[] {-1, 3, 4, 455, 1 << 29, MAX, MIN, MIN + 1}) {
                CHECK.due("multiple(0, 2, " + w + ", " + what + ")", bench.multiple(0, 2, w, what), 0);
            }
        }
        for (int what : new int[] {-1, -7, 7, 8, 14, MAX, MIN}) {
            CHECK.due("multiple(0, 2, 1, " + what + ")", bench.multiple(0, 2, 1, what), 0);
        }
        // Rows of the longer list asked before are not seen behind the shorter one.
        CHECK.due("multiples(0, 12) > 20", bench.multiples(0, 12) > 20, true);
        CHECK.due("multiple(0, 2, 3, 0)", bench.multiple(0, 2, 3, 0), 0);
        CHECK.due("multiple(0, 2, 3, 6)", bench.multiple(0, 2, 3, 6), 0);
        CHECK.due("multiple(0, 2, 2, 6)", bench.multiple(0, 2, 2, 6), 1);
        CHECK.due("multiple(0, 1, 1, 0)", bench.multiple(0, 1, 1, 0), 0);
    }

    /** Answers for one cell and n stay the same whatever was asked, told or refused in between. */
    private static void dueInTurns() {
        CHECK.sentence("Promise 7", "Of the k-th MULTIPLE A to F (what 0 to 5)");
        CellBench bench = benchWith(1, 1, 1, 0, 0, 0);
        for (int turn = 0; turn < 3; turn++) {
            CHECK.due("multiple(0, 2, 0, 2)", bench.multiple(0, 2, 0, 2), 4);
            CHECK.due("multiple(0, 3, 0, 2)", bench.multiple(0, 3, 0, 2), 9);
            bench.cell(2 + turn, 5, 7, 0, 0, 0);
            CHECK.due("another cell", bench.multiple(1 + turn, 3, 0, 0), 2 + turn);
            CHECK.due("common", bench.common(1 + turn, 2, 0, 2), 0);
            CHECK.due("cell", bench.cell(0, 0, 0, 0, 0, 0), -1);
            CHECK.due("multiples(0, 2)", bench.multiples(0, 2), 3);
            CHECK.due("multiples(0, 13)", bench.multiples(0, 13), -1);
            CHECK.due("multiples(9, 2)", bench.multiples(9, 2), -1);
            CHECK.due("multiple(0, 2, 1, 1)", bench.multiple(0, 2, 1, 1), 2);
        }
    }
}

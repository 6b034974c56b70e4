/** Promises 9 and 10: lengths of routes, and how many short ones there are. */
public final class RouteTest {
    private static final Check CHECK = new Check();
    private static final int MIN = Integer.MIN_VALUE;
    private static final int MAX = Integer.MAX_VALUE;

    public static void main(String[] args) {
        dueLengths();
        dueTold();
        dueFarthest();
        dueNoRoute();
        dueNoCellToStep();
        dueShort();
        dueReach();
        dueShortest();
        dueNoCellToCount();
        CHECK.end();
    }

    private static CellBench benchWith(int... s) {
        CellBench bench = new CellBench();
        bench.cell(s[0], s[1], s[2], s[3], s[4], s[5]);
        return bench;
    }

    private static void dueStep(CellBench bench, int x, int y, int z, long want) {
        CHECK.due("step(0, " + x + ", " + y + ", " + z + ")", bench.step(0, x, y, z), want);
    }

    private static void dueShorter(CellBench bench, long r, int want) {
        CHECK.due("shorter(0, " + r + ")", bench.shorter(0, r), want);
    }

    private static void dueLengths() {
        CHECK.sentence("Promise 9", "its LENGTH is the product with itself of the sum of edges times its numbers.");
        CellBench bench = benchWith(4, 9, 16, 5, 2, 3);
        dueStep(bench, 0, 0, 0, 0);
        dueStep(bench, 1, 0, 0, 4);
        dueStep(bench, 0, 1, 0, 9);
        dueStep(bench, 0, 0, 1, 16);
        dueStep(bench, 0, 1, 1, 35);
        dueStep(bench, 1, 0, 1, 24);
        dueStep(bench, 1, 1, 0, 19);
        dueStep(bench, 0, 1, -1, 15);
        dueStep(bench, -1, 0, 1, 16);
        dueStep(bench, -1, 1, 0, 7);
        dueStep(bench, -1, 0, 0, 4);
        dueStep(bench, 2, 0, 0, 16);
        dueStep(bench, 1, -2, 3, 4 + 36 + 144 - 60 + 12 - 12);
    }

    private static void dueTold() {
        CHECK.sentence("Promise 9", "The LENGTH of a ROUTE of a CELL as it was told");
        CellBench bench = benchWith(12, 11, 10, 1, -2, 0);
        dueStep(bench, 1, 0, 0, 12);
        dueStep(bench, 0, 0, 1, 10);
        dueStep(bench, 0, 1, 1, 23);
        dueStep(bench, 1, 0, 1, 18);
        CellBench far = benchWith(1, 1, 10_000, 0, 99, 0);
        dueStep(far, 0, 0, 1, 10_000);
        dueStep(far, -99, 0, 1, 199);
    }

    private static void dueFarthest() {
        CHECK.sentence("Promise 9", "A ROUTE is three whole numbers, -1,000 .. 1,000");
        CellBench bench = benchWith(10_000, 10_000, 10_000, 9_999, 9_999, 9_999);
        for (int far : new int[] {1_000, -1_000}) {
            // Too large for an int.
            dueStep(bench, far, 0, 0, 10_000_000_000L);
            dueStep(bench, 0, far, 0, 10_000_000_000L);
            dueStep(bench, 0, 0, far, 10_000_000_000L);
            dueStep(bench, far, far, far, 89_994_000_000L);
            dueStep(bench, far, -far, 0, 2_000_000L);
        }
        dueStep(bench, 999, 0, 0, 9_980_010_000L);
        dueStep(bench, 1, 0, 0, 10_000);
    }

    private static void dueNoRoute() {
        CHECK.sentence("Promise 9", "0 when there is none such, or a number is not as said.");
        CellBench bench = benchWith(4, 9, 16, 5, 2, 3);
        for (int wrong : new int[] {1_001, -1_001, 65_536, 65_537, MAX, MIN, MIN + 1}) {
            dueStep(bench, wrong, 0, 0, 0);
            dueStep(bench, 0, wrong, 0, 0);
            dueStep(bench, 0, 0, wrong, 0);
            dueStep(bench, wrong, 1, 1, 0);
            dueStep(bench, 1, wrong, 1, 0);
            dueStep(bench, 1, 1, wrong, 0);
            dueStep(bench, wrong, wrong, wrong, 0);
        }
    }

    private static void dueNoCellToStep() {
        CHECK.sentence("Promise 9", "0 when there is none such");
        CellBench bench = benchWith(4, 9, 16, 5, 2, 3);
        for (int cell : new int[] {-1, 1, 2, 39, 40, MAX, MIN}) {
            CHECK.due("step(" + cell + ", 1, 1, 1)", bench.step(cell, 1, 1, 1), 0);
            CHECK.due("step(" + cell + ", 1001, 1, 1)", bench.step(cell, 1_001, 1, 1), 0);
        }
        dueStep(bench, 1, 1, 1, 4 + 9 + 16 + 10 + 4 + 6);
    }

    private static void dueShort() {
        CHECK.sentence("Promise 10", "have a LENGTH of at most r.");
        CellBench bench = benchWith(1, 1, 1, 0, 0, 0);
        // Points of the whole numbers by their squares: 6 of 1, 12 of 2, 8 of 3, 6 of 4; the farthest of 48.
        long[] r = {1, 2, 3, 4, 47, 48, 49};
        int[] want = {6, 18, 26, 32, 720, 728, 728};
        for (int i = 0; i < r.length; i++) {
            dueShorter(bench, r[i], want[i]);
        }
        CellBench large = benchWith(10_000, 10_000, 10_000, 0, 0, 0);
        dueShorter(large, 9_999, 0);
        dueShorter(large, 10_000, 6);
        dueShorter(large, 479_999, 720);
        dueShorter(large, 480_000, 728);
        // The same cell as that of whole numbers, told by other edges, has fewer short ones.
        CellBench told = benchWith(1, 1, 37, 0, 6, 0);
        dueShorter(told, 1, 4);
        dueShorter(told, 5, Plain.shorter(new long[] {1, 1, 37, 0, 6, 0}, 5));
    }

    /** Along edges of 1 there would be more, were farther numbers allowed. */
    private static void dueReach() {
        CHECK.sentence("Promise 10", "how many ROUTES of numbers -4 .. 4, but of three 0s");
        dueShorter(benchWith(1, 10_000, 10_000, 0, 0, 0), 9_999, 8);
        dueShorter(benchWith(10_000, 1, 10_000, 0, 0, 0), 9_999, 8);
        dueShorter(benchWith(10_000, 10_000, 1, 0, 0, 0), 9_999, 8);
        dueShorter(benchWith(1, 10_000, 10_000, 0, 0, 0), 15, 6);
        dueShorter(benchWith(1, 1, 10_000, 0, 0, 0), 9_999, 80);
        dueShorter(benchWith(1, 1, 1, 0, 0, 0), 1_000_000, 728);
    }

    private static void dueShortest() {
        CHECK.sentence("Promise 10", "SHORT within r");
        CellBench bench = benchWith(1, 1, 1, 0, 0, 0);
        dueShorter(bench, 0, 0);
        dueShorter(bench, -1, 0);
        dueShorter(bench, Long.MIN_VALUE, 0);
        dueShorter(bench, Long.MAX_VALUE, 728);
        // Of these the lowest 32 bits tell another number.
        dueShorter(bench, 1L << 32, 728);
        dueShorter(bench, (1L << 32) + 1, 728);
        dueShorter(bench, -(1L << 32) + 1, 0);
        dueShorter(bench, -(1L << 32) + 48, 0);
    }

    private static void dueNoCellToCount() {
        CHECK.sentence("Promise 10", "NONE when there is no such CELL.");
        CellBench bench = benchWith(1, 1, 1, 0, 0, 0);
        for (int cell : new int[] {-1, 1, 2, 39, 40, MAX, MIN}) {
            for (long r : new long[] {9, 0, -1, Long.MAX_VALUE, Long.MIN_VALUE}) {
                CHECK.due("shorter(" + cell + ", " + r + ")", bench.shorter(cell, r), -1);
            }
        }
        dueShorter(bench, 1, 6);
    }
}

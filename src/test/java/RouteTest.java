/** Promises 9 and 10: lengths of routes, and how many short ones there are. */
public final class RouteTest {
    private static final Check CHECK = new Check();

    public static void main(String[] args) {
        dueLengths();
        dueShort();
        CHECK.end();
    }

    private static void dueLengths() {
        CellBench bench = new CellBench();
        bench.cell(4, 9, 16, 5, 2, 3);
        bench.cell(10_000, 10_000, 10_000, 9_999, 9_999, 9_999);
        CHECK.due("step(0, 1, 0, 0)", bench.step(0, 1, 0, 0), 4);
        CHECK.due("step(0, 0, 1, 0)", bench.step(0, 0, 1, 0), 9);
        CHECK.due("step(0, 0, 0, 1)", bench.step(0, 0, 0, 1), 16);
        CHECK.due("step(0, 0, 1, 1)", bench.step(0, 0, 1, 1), 35);
        CHECK.due("step(0, 1, 0, 1)", bench.step(0, 1, 0, 1), 24);
        CHECK.due("step(0, 1, 1, 0)", bench.step(0, 1, 1, 0), 19);
        CHECK.due("step(0, 1, -2, 3)", bench.step(0, 1, -2, 3), 4 + 36 + 144 - 60 + 12 - 12);
        CHECK.due("step(0, 0, 0, 0)", bench.step(0, 0, 0, 0), 0);
        CHECK.due("the longest", bench.step(1, 1_000, 1_000, 1_000), 89_994_000_000L);
        CHECK.due("the longest", bench.step(1, -1_000, -1_000, -1_000), 89_994_000_000L);
        CHECK.due("step(1, 1000, 0, 0)", bench.step(1, 1_000, 0, 0), 10_000_000_000L);
        for (int wrong : new int[] {1_001, -1_001, Integer.MAX_VALUE, Integer.MIN_VALUE}) {
            CHECK.due("step(0, w, 1, 1)", bench.step(0, wrong, 1, 1), 0);
            CHECK.due("step(0, 1, w, 1)", bench.step(0, 1, wrong, 1), 0);
            CHECK.due("step(0, 1, 1, w)", bench.step(0, 1, 1, wrong), 0);
            CHECK.due("step(w, 1, 1, 1)", bench.step(wrong, 1, 1, 1), 0);
        }
        CHECK.due("step(2, 1, 1, 1)", bench.step(2, 1, 1, 1), 0);
        CHECK.due("step(-1, 1, 1, 1)", bench.step(-1, 1, 1, 1), 0);
    }

    private static void dueShort() {
        CellBench bench = new CellBench();
        bench.cell(1, 1, 1, 0, 0, 0);
        // Points of the whole numbers by their squares: 6 of 1, 12 of 2, 8 of 3, 6 of 4.
        long[] r = {-1, 0, 1, 2, 3, 4, 47, 48, Long.MAX_VALUE, Long.MIN_VALUE, 1L << 32};
        int[] want = {0, 0, 6, 18, 26, 32, 720, 728, 728, 0, 728};
        for (int i = 0; i < r.length; i++) {
            CHECK.due("shorter(0, " + r[i] + ")", bench.shorter(0, r[i]), want[i]);
        }
        // The same cell told by other edges has fewer short routes of numbers -4 .. 4.
        bench.cell(1, 1, 37, 0, 6, 0);
        CHECK.due("same(1)", bench.same(1), 0);
        CHECK.due("shorter(1, 1)", bench.shorter(1, 1), 4);
        CHECK.due("shorter(1, 5)", bench.shorter(1, 5), Plain.shorter(new long[] {1, 1, 37, 0, 6, 0}, 5));
        for (int cell : new int[] {-1, 2, 40, Integer.MAX_VALUE, Integer.MIN_VALUE}) {
            CHECK.due("shorter(" + cell + ", 9)", bench.shorter(cell, 9), -1);
        }
    }
}

/** Promise 2: which six numbers are a cell, and its number. */
public final class CellTest {
    private static final Check CHECK = new Check();

    public static void main(String[] args) {
        dueRefused();
        dueEdges();
        dueForty();
        CHECK.end();
    }

    private static void due(CellBench bench, int want, int... s) {
        CHECK.due("cell" + java.util.Arrays.toString(s), bench.cell(s[0], s[1], s[2], s[3], s[4], s[5]), want);
    }

    private static void dueRefused() {
        CellBench bench = new CellBench();
        int[] wrongSquares = {0, -1, 10_001, Integer.MAX_VALUE, Integer.MIN_VALUE};
        for (int wrong : wrongSquares) {
            due(bench, -1, wrong, 9, 9, 0, 0, 0);
            due(bench, -1, 9, wrong, 9, 0, 0, 0);
            due(bench, -1, 9, 9, wrong, 0, 0, 0);
        }
        int[] wrongMixed = {10_000, -10_000, 10_001, -10_001, Integer.MAX_VALUE, Integer.MIN_VALUE, 65_536};
        for (int wrong : wrongMixed) {
            due(bench, -1, 10_000, 10_000, 10_000, wrong, 0, 0);
            due(bench, -1, 10_000, 10_000, 10_000, 0, wrong, 0);
            due(bench, -1, 10_000, 10_000, 10_000, 0, 0, wrong);
        }
        // A B - F F is 0; the determinant is 0; it is below 0.
        due(bench, -1, 4, 9, 100, 0, 0, 6);
        due(bench, -1, 4, 9, 100, 0, 0, -6);
        due(bench, -1, 1, 1, 1, 1, 0, 0);
        due(bench, -1, 2, 2, 2, -1, -1, -1);
        due(bench, -1, 4, 4, 4, 3, 3, -3);
        // A B - F F is below 0 though the determinant is above it.
        due(bench, -1, 1, 1, 1, 2, 2, 2);
        CHECK.due("no cell was made", bench.reduced(0, 0), 0);
        due(bench, 0, 2, 2, 2, 1, 1, 1);
    }

    private static void dueEdges() {
        CellBench bench = new CellBench();
        due(bench, 0, 1, 1, 1, 0, 0, 0);
        due(bench, 1, 10_000, 10_000, 10_000, 0, 0, 0);
        due(bench, 2, 10_000, 10_000, 10_000, 9_999, 0, 0);
        due(bench, 3, 10_000, 10_000, 10_000, 9_999, 9_999, 9_999);
        due(bench, 4, 10_000, 10_000, 10_000, -9_999, 9_999, -9_999);
        due(bench, -1, 10_000, 10_000, 10_000, -9_999, -9_999, -9_999);
        due(bench, 5, 10_000, 10_000, 10_000, 0, -9_999, 0);
        due(bench, 6, 2, 2, 2, -1, 0, -1);
        CHECK.due("reduced(1, 7)", bench.reduced(1, 7), 1_000_000_000_000L);
        CHECK.due("reduced(3, 7)", bench.reduced(3, 7), 29_998L);
    }

    private static void dueForty() {
        CellBench bench = new CellBench();
        for (int i = 0; i < 40; i++) {
            due(bench, -1, 1, 1, 0, 0, 0, 0);
            due(bench, i, 1, 2, i + 1, 0, 0, 0);
        }
        due(bench, -1, 1, 1, 1, 0, 0, 0);
        due(bench, -1, 1, 2, 40, 0, 0, 0);
        CHECK.due("reduced(39, 2)", bench.reduced(39, 2), 40);
        CHECK.due("reduced(40, 2)", bench.reduced(40, 2), 0);
        CHECK.due("same(39)", bench.same(39), 39);
        CHECK.due("same(40)", bench.same(40), -1);
    }
}

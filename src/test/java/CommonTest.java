/** Promise 8: multiples that two cells have in common. */
public final class CommonTest {
    public static void main(String[] args) {
        Check check = new Check();
        CellBench bench = new CellBench();
        bench.cell(1, 1, 1, 0, 0, 0);
        bench.cell(1, 1, 4, 0, 0, 0);
        bench.cell(2, 2, 2, 1, 1, 1);
        bench.cell(1, 2, 11, 4, 3, 1);
        bench.cell(10, 11, 12, 1, 2, 3);
        // A cell with itself: all its multiples.
        for (int n = 1; n <= 12; n++) {
            check.due("common(0, n, 0, n)", bench.common(0, n, 0, n), bench.multiples(0, n));
            check.due("common(4, n, 4, n)", bench.common(4, n, 4, n), bench.multiples(4, n));
        }
        // Cells 1 and 2 are multiples of cell 0 by 2; cell 3 is cell 0 told by other edges.
        check.due("common(0, 2, 1, 1)", bench.common(0, 2, 1, 1), 1);
        check.due("common(1, 1, 0, 2)", bench.common(1, 1, 0, 2), 1);
        check.due("common(0, 2, 2, 1)", bench.common(0, 2, 2, 1), 1);
        check.due("common(0, 4, 1, 2)", bench.common(0, 4, 1, 2), bench.multiples(1, 2));
        check.due("common(1, 6, 0, 12)", bench.common(1, 6, 0, 12), bench.multiples(1, 6));
        check.due("common(0, 3, 3, 3)", bench.common(0, 3, 3, 3), 3);
        check.due("common(1, 2, 2, 2)", bench.common(1, 2, 2, 2),
                Plain.common(new long[] {1, 1, 4, 0, 0, 0}, 2, new long[] {2, 2, 2, 1, 1, 1}, 2));
        // Not the same volume, so none in common: 0, not NONE.
        check.due("common(0, 2, 0, 3)", bench.common(0, 2, 0, 3), 0);
        check.due("common(0, 12, 4, 12)", bench.common(0, 12, 4, 12), 0);
        for (int wrong : new int[] {-1, 40, 13, Integer.MAX_VALUE, Integer.MIN_VALUE}) {
            check.due("common(w, 1, 0, 1)", bench.common(wrong, 1, 0, 1), -1);
            check.due("common(0, w, 0, 1)", bench.common(0, wrong, 0, 1), -1);
            check.due("common(0, 1, w, 1)", bench.common(0, 1, wrong, 1), -1);
            check.due("common(0, 1, 0, w)", bench.common(0, 1, 0, wrong), -1);
        }
        check.due("common(0, 0, 0, 1)", bench.common(0, 0, 0, 1), -1);
        check.due("common(0, 1, 0, 0)", bench.common(0, 1, 0, 0), -1);
        check.due("common(5, 1, 0, 1)", bench.common(5, 1, 0, 1), -1);
        check.due("common(0, 1, 5, 1)", bench.common(0, 1, 5, 1), -1);
        check.end();
    }
}

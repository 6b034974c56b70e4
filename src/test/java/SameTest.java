/** Promise 5: the first cell with the same reduced six. */
public final class SameTest {
    private static final Check CHECK = new Check();

    public static void main(String[] args) {
        dueFirst();
        dueEachNumber();
        dueFull();
        dueNone();
        CHECK.end();
    }

    private static void due(CellBench bench, int... want) {
        for (int cell = 0; cell < want.length; cell++) {
            CHECK.due("same(" + cell + ")", bench.same(cell), want[cell]);
        }
    }

    private static void dueFirst() {
        CHECK.sentence("Promise 5", "The first CELL that has the same reduced six as this one");
        CellBench bench = new CellBench();
        bench.cell(10, 11, 12, 1, 2, 3);
        bench.cell(10, 11, 12, -1, -2, -3);
        // The first once more: its edges told the other way round, two turned, one longer, and as it was.
        bench.cell(12, 11, 10, 3, 2, 1);
        bench.cell(10, 11, 12, -1, -2, 3);
        bench.cell(10, 27, 12, 3, 2, 13);
        bench.cell(10, 11, 12, 1, 2, 3);
        bench.cell(10, 11, 12, -1, 2, 3);
        due(bench, 0, 1, 0, 0, 0, 0, 1);
        // The same whatever was told since.
        bench.cell(10, 11, 12, 1, 2, 3);
        due(bench, 0, 1, 0, 0, 0, 0, 1, 0);
    }

    /** Cells that differ in one of the reduced six alone are not the same. */
    private static void dueEachNumber() {
        CHECK.sentence("Promise 5", "the same reduced six as this one");
        CellBench bench = new CellBench();
        bench.cell(10, 12, 14, 1, 2, 3);
        bench.cell(11, 12, 14, 1, 2, 3);
        bench.cell(10, 13, 14, 1, 2, 3);
        bench.cell(10, 12, 15, 1, 2, 3);
        bench.cell(10, 12, 14, 2, 2, 3);
        bench.cell(10, 12, 14, 1, 3, 3);
        bench.cell(10, 12, 14, 1, 2, 4);
        due(bench, 0, 1, 2, 3, 4, 5, 6);
        // Told alike in all but what reducing takes away; told unlike, with the same determinant.
        CellBench other = new CellBench();
        other.cell(1, 1, 4, 0, 0, 0);
        other.cell(1, 2, 2, 0, 0, 0);
        other.cell(2, 2, 2, 1, 1, 1);
        other.cell(1, 1, 5, 0, 1, 0);
        due(other, 0, 1, 2, 0);
    }

    private static void dueFull() {
        CHECK.sentence("Promise 5", "The first CELL that has the same reduced six as this one");
        CellBench alike = new CellBench();
        for (int i = 0; i < 40; i++) {
            alike.cell(1, 1, 1 + i * i, 0, i, 0);
        }
        CellBench unlike = new CellBench();
        for (int i = 0; i < 39; i++) {
            unlike.cell(1, 1, 1 + i, 0, 0, 0);
        }
        unlike.cell(1, 1, 39, 0, 0, 0);
        for (int i = 0; i < 40; i++) {
            CHECK.due("same(" + i + ") of alike ones", alike.same(i), 0);
            CHECK.due("same(" + i + ") of unlike ones", unlike.same(i), i < 39 ? i : 38);
        }
    }

    private static void dueNone() {
        CHECK.sentence("Promise 5", "NONE when there is none such.");
        CellBench bench = new CellBench();
        CHECK.due("same(0) without a cell", bench.same(0), -1);
        bench.cell(10, 11, 12, 1, 2, 3);
        for (int cell : new int[] {-1, 1, 2, 39, 40, Integer.MAX_VALUE, Integer.MIN_VALUE}) {
            CHECK.due("same(" + cell + ")", bench.same(cell), -1);
        }
        CHECK.due("same(0)", bench.same(0), 0);
    }
}

/** Promise 2: which six numbers are a cell, and its number. */
public final class CellTest {
    private static final Check CHECK = new Check();
    private static final int MIN = Integer.MIN_VALUE;
    private static final int MAX = Integer.MAX_VALUE;

    public static void main(String[] args) {
        dueSquares();
        dueMixed();
        dueMixedThatWrap();
        dueFaceAbove0();
        dueDeterminantAbove0();
        dueNumbers();
        dueForty();
        dueRefusedLeavesNothing();
        CHECK.end();
    }

    private static void dueSquares() {
        CHECK.sentence("Promise 2", "A, B, C 1 .. 10,000");
        CellBench bench = new CellBench();
        // 65,537 and the like are 1 in their lowest bits.
        for (int wrong : new int[] {0, -1, -9, 10_001, 65_537, 1 << 30, MAX, MIN, MIN + 1}) {
            CHECK.dueCell(bench, -1, wrong, 9, 9, 0, 0, 0);
            CHECK.dueCell(bench, -1, 9, wrong, 9, 0, 0, 0);
            CHECK.dueCell(bench, -1, 9, 9, wrong, 0, 0, 0);
            CHECK.dueCell(bench, -1, wrong, wrong, 9, 0, 0, 0);
            CHECK.dueCell(bench, -1, wrong, wrong, wrong, 0, 0, 0);
        }
        int cell = 0;
        for (int right : new int[] {1, 2, 9_999, 10_000}) {
            CHECK.dueCell(bench, cell++, right, 9, 9, 0, 0, 0);
            CHECK.dueCell(bench, cell++, 9, right, 9, 0, 0, 0);
            CHECK.dueCell(bench, cell++, 9, 9, right, 0, 0, 0);
            CHECK.dueCell(bench, cell++, right, right, right, 0, 0, 0);
        }
    }

    /** No cell has a mixed one of 10,000: the determinant is 0 or below then. 9,999 is the farthest. */
    private static void dueMixed() {
        CHECK.sentence("Promise 2", "D, E, F -10,000 .. 10,000");
        CellBench bench = new CellBench();
        for (int wrong : new int[] {10_000, -10_000, 10_001, -10_001, 65_536, -65_536, MAX, MIN}) {
            CHECK.dueCell(bench, -1, 10_000, 10_000, 10_000, wrong, 0, 0);
            CHECK.dueCell(bench, -1, 10_000, 10_000, 10_000, 0, wrong, 0);
            CHECK.dueCell(bench, -1, 10_000, 10_000, 10_000, 0, 0, wrong);
            CHECK.dueCell(bench, -1, 10_000, 10_000, 10_000, wrong, wrong, wrong);
        }
        int cell = 0;
        for (int right : new int[] {9_999, -9_999, 0, 1, -1}) {
            CHECK.dueCell(bench, cell++, 10_000, 10_000, 10_000, right, 0, 0);
            CHECK.dueCell(bench, cell++, 10_000, 10_000, 10_000, 0, right, 0);
            CHECK.dueCell(bench, cell++, 10_000, 10_000, 10_000, 0, 0, right);
        }
        CHECK.dueCell(bench, cell++, 10_000, 10_000, 10_000, 9_999, 9_999, 9_999);
        CHECK.dueCell(bench, cell++, 10_000, 10_000, 10_000, -9_999, 9_999, -9_999);
    }

    /** Here the determinant seems to be above 0 where its numbers wrap around, as ints or as longs. */
    private static void dueMixedThatWrap() {
        CHECK.sentence("Promise 2", "D, E, F -10,000 .. 10,000");
        CellBench bench = new CellBench();
        for (int wrong : new int[] {65_536, -65_536, MAX, MIN, MIN + 1}) {
            CHECK.dueCell(bench, -1, 4, 1, 1, wrong, 0, 0);
            CHECK.dueCell(bench, -1, 1, 4, 1, 0, wrong, 0);
            CHECK.dueCell(bench, -1, 1, 1, 4, 0, 0, wrong);
            CHECK.dueCell(bench, -1, 4, 4, 4, wrong, wrong, wrong);
        }
        CHECK.due("no cell was made", bench.reduced(0, 0), 0);
    }

    private static void dueFaceAbove0() {
        CHECK.sentence("Promise 2", "with A B - F F above 0");
        CellBench bench = new CellBench();
        // It is 0.
        CHECK.dueCell(bench, -1, 4, 9, 100, 0, 0, 6);
        CHECK.dueCell(bench, -1, 4, 9, 100, 0, 0, -6);
        CHECK.dueCell(bench, -1, 10_000, 10_000, 10_000, 0, 0, 10_000);
        // It is below 0, though the determinant is above it.
        CHECK.dueCell(bench, -1, 1, 1, 1, 2, 2, 2);
        CHECK.dueCell(bench, -1, 1, 3, 1, 10, 6, 2);
        CHECK.dueCell(bench, -1, 1, 3, 1, -10, 6, -2);
        // It is 1.
        CHECK.dueCell(bench, 0, 1, 1, 100, 0, 0, 0);
        CHECK.dueCell(bench, 1, 2, 5, 100, 0, 0, 3);
        CHECK.dueCell(bench, 2, 2, 5, 100, 0, 0, -3);
        // Both are large, and near each other.
        CHECK.dueCell(bench, 3, 10_000, 9_999, 10_000, 0, 0, 9_999);
    }

    private static void dueDeterminantAbove0() {
        CHECK.sentence("Promise 2", "the determinant of the rows A F E, F B D, E D C above 0");
        CellBench bench = new CellBench();
        // It is 0.
        CHECK.dueCell(bench, -1, 1, 1, 1, 1, 0, 0);
        CHECK.dueCell(bench, -1, 1, 1, 1, 0, 1, 0);
        CHECK.dueCell(bench, -1, 2, 2, 2, -1, -1, -1);
        CHECK.dueCell(bench, -1, 1, 1, 2, 1, 1, 0);
        // It is below 0.
        CHECK.dueCell(bench, -1, 4, 4, 4, 3, 3, -3);
        CHECK.dueCell(bench, -1, 1, 1, 1, 1, 1, 0);
        CHECK.dueCell(bench, -1, 10_000, 10_000, 10_000, -9_999, -9_999, -9_999);
        // It is 1, told by short and by long edges.
        CHECK.dueCell(bench, 0, 1, 1, 1, 0, 0, 0);
        CHECK.dueCell(bench, 1, 1, 1, 3, 1, 1, 0);
        CHECK.dueCell(bench, 2, 1, 10, 17, 12, 4, 3);
        // One sign more or less decides.
        CHECK.dueCell(bench, 3, 4, 4, 4, 3, 3, 3);
        CHECK.dueCell(bench, 4, 4, 4, 4, -3, -3, 3);
        // It is as large as it can be.
        CHECK.dueCell(bench, 5, 10_000, 10_000, 10_000, 0, 0, 0);
        long[] want = {1, 1, 1, 10, 10, 1_000_000_000_000L};
        for (int cell = 0; cell < want.length; cell++) {
            CHECK.due("reduced(" + cell + ", 7)", bench.reduced(cell, 7), want[cell]);
        }
    }

    private static void dueNumbers() {
        CHECK.sentence("Promise 2", "A new CELL: its number.");
        CellBench bench = new CellBench();
        for (int i = 0; i < 3; i++) {
            // The same six once more are a cell of their own.
            CHECK.dueCell(bench, 2 * i, 3, 4, 5, 1, 1, 1);
            CHECK.dueCell(bench, 2 * i + 1, 3, 4, 5 + i, 0, 0, 0);
        }
        CHECK.dueReduced(bench, 4, 3, 4, 5, 1, 1, 1);
        CHECK.dueReduced(bench, 5, 3, 4, 7, 0, 0, 0);
    }

    private static void dueForty() {
        CHECK.sentence("Promise 2", "CELLS are numbered from 0 on, 40 at most.");
        CellBench bench = new CellBench();
        for (int i = 0; i < 40; i++) {
            CHECK.dueCell(bench, i, 1, 2, i + 1, 0, 0, 0);
        }
        CHECK.due("reduced(39, 7)", bench.reduced(39, 7), 80);
        CHECK.sentence("Promise 2", "NONE, refused, when there are 40");
        for (int i = 0; i < 3; i++) {
            CHECK.dueCell(bench, -1, 1, 1, 1, 0, 0, 0);
            CHECK.dueCell(bench, -1, 1, 2, 40, 0, 0, 0);
            CHECK.dueCell(bench, -1, 0, 0, 0, 0, 0, 0);
        }
        for (int i = 0; i < 40; i++) {
            CHECK.due("reduced(" + i + ", 7)", bench.reduced(i, 7), 2 * (i + 1));
        }
        CHECK.due("reduced(40, 7)", bench.reduced(40, 7), 0);
        CHECK.due("same(39)", bench.same(39), 39);
        CHECK.due("same(40)", bench.same(40), -1);
        CHECK.due("shorter(40, 9)", bench.shorter(40, 9), -1);
    }

    private static void dueRefusedLeavesNothing() {
        CHECK.sentence("Promise 2", "NONE, refused, when there are 40, or they are not as said.");
        CellBench bench = new CellBench();
        for (int i = 0; i < 40; i++) {
            CHECK.dueCell(bench, -1, 1, 1, 0, 0, 0, 0);
            CHECK.dueCell(bench, -1, 1, 1, 1, 1, 1, 1);
            CHECK.due("reduced(" + i + ", 0)", bench.reduced(i, 0), 0);
            CHECK.due("same(" + i + ")", bench.same(i), -1);
            CHECK.dueCell(bench, i, 2 + i, 50, 60, 0, 0, 0);
            CHECK.dueCell(bench, -1, 2 + i, 50, 60, 10_001, 0, 0);
            CHECK.due("reduced(" + i + ", 0)", bench.reduced(i, 0), 2 + i);
        }
    }
}

/** Promise 5: the first cell with the same reduced six. */
public final class SameTest {
    public static void main(String[] args) {
        Check check = new Check();
        CellBench bench = new CellBench();
        bench.cell(10, 11, 12, 1, 2, 3);
        bench.cell(10, 11, 12, -1, -2, -3);
        bench.cell(12, 11, 10, 3, 2, 1);
        bench.cell(10, 11, 12, -1, -2, 3);
        bench.cell(10, 11, 13, 1, 2, 3);
        bench.cell(10, 11, 12, -1, 2, 3);
        bench.cell(10, 11, 12, 1, 2, 4);
        bench.cell(10, 27, 12, 3, 2, 13);
        bench.cell(10, 11, 12, 1, 2, 3);
        bench.cell(9, 11, 12, 1, 2, 3);
        bench.cell(10, 9, 12, 1, 2, 3);
        bench.cell(10, 11, 12, 2, 2, 3);
        bench.cell(10, 11, 12, 1, 3, 3);
        int[] want = {0, 1, 0, 0, 4, 1, 6, 0, 0, 9, 10, 11, 12};
        for (int cell = 0; cell < want.length; cell++) {
            check.due("same(" + cell + ")", bench.same(cell), want[cell]);
        }
        for (int cell : new int[] {-1, 13, 39, 40, Integer.MAX_VALUE, Integer.MIN_VALUE}) {
            check.due("same(" + cell + ")", bench.same(cell), -1);
        }
        check.end();
    }
}

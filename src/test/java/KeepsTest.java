/** Promise 4: which matrices keep a cell's six as they were told. */
public final class KeepsTest {
    private static final Check CHECK = new Check();

    public static void main(String[] args) {
        CellBench bench = new CellBench();
        bench.cell(10, 10, 30, 0, 0, 0);
        bench.cell(10, 11, 12, 1, 2, 3);
        bench.cell(1, 1, 1, 0, 0, 0);
        bench.cell(10, 10, 30, 0, 0, 5);
        bench.cell(1, 2, 1, 0, 0, 1);
        bench.cell(1, 10, 17, 12, 4, 3);
        dueMatrices(bench);
        dueCounts(bench);
        dueNothing(bench);
        CHECK.end();
    }

    private static int nine(int... numbers) {
        int nine = 0;
        for (int number : numbers) {
            nine = 3 * nine + number + 1;
        }
        return nine;
    }

    private static void dueMatrices(CellBench bench) {
        int identity = nine(1, 0, 0, 0, 1, 0, 0, 0, 1);
        CHECK.due("the identity's nine", identity, 16_484);
        for (int cell = 0; cell < 6; cell++) {
            CHECK.due("identity of " + cell, bench.keeps(cell, identity), true);
            CHECK.due("inversion of " + cell, bench.keeps(cell, nine(-1, 0, 0, 0, -1, 0, 0, 0, -1)), true);
            CHECK.due("zero of " + cell, bench.keeps(cell, nine(0, 0, 0, 0, 0, 0, 0, 0, 0)), false);
            CHECK.due("lowest nine of " + cell, bench.keeps(cell, 0), false);
            CHECK.due("highest nine of " + cell, bench.keeps(cell, 19_682), false);
        }
        int quarterTurn = nine(0, -1, 0, 1, 0, 0, 0, 0, 1);
        CHECK.due("quarter turn of 0", bench.keeps(0, quarterTurn), true);
        CHECK.due("quarter turn of 1", bench.keeps(1, quarterTurn), false);
        CHECK.due("quarter turn of 3", bench.keeps(3, quarterTurn), false);
        int thirdTurn = nine(0, 0, 1, 1, 0, 0, 0, 1, 0);
        CHECK.due("third turn of 0", bench.keeps(0, thirdTurn), false);
        CHECK.due("third turn of 2", bench.keeps(2, thirdTurn), true);
        // Of 4 the second edge is the sum of a and another one as long as a: columns are not rows here.
        CHECK.due("columns a, a - b .. of 4", bench.keeps(4, nine(1, 0, 0, 0, -1, 0, 0, 0, 1)), false);
        CHECK.due("columns a, 2a - b of 4", bench.keeps(4, nine(1, 1, 0, 0, -1, 0, 0, 0, 1)), false);
        CHECK.due("columns b - a, b of 4", bench.keeps(4, nine(-1, 0, 0, 1, 1, 0, 0, 0, 1)), true);
        CHECK.due("rows b - a, b of 4", bench.keeps(4, nine(-1, 1, 0, 0, 1, 0, 0, 0, 1)), false);
    }

    private static void dueCount(CellBench bench, int cell, int want) {
        int kept = 0;
        for (int nine = 0; nine < 19_683; nine++) {
            if (bench.keeps(cell, nine)) {
                kept++;
            }
        }
        CHECK.due("matrices that keep " + cell, kept, want);
    }

    /** Of cell 5, told by long edges, fewer matrices keep the told six than the reduced ones. */
    private static void dueCounts(CellBench bench) {
        dueCount(bench, 0, 16);
        dueCount(bench, 1, 2);
        dueCount(bench, 2, 48);
        dueCount(bench, 3, 24);
        CHECK.due("reduced(5, 6)", bench.reduced(5, 6), 48);
        dueCount(bench, 5, Plain.symmetry(new long[] {1, 10, 17, 12, 4, 3}));
        CHECK.due("told is not reduced", Plain.symmetry(new long[] {1, 10, 17, 12, 4, 3}) < 48, true);
    }

    private static void dueNothing(CellBench bench) {
        for (int nine : new int[] {-1, 19_683, 19_683 + 16_484, Integer.MAX_VALUE, Integer.MIN_VALUE}) {
            CHECK.due("keeps(0, " + nine + ")", bench.keeps(0, nine), false);
        }
        for (int cell : new int[] {-1, 6, 40, Integer.MAX_VALUE, Integer.MIN_VALUE}) {
            CHECK.due("keeps(" + cell + ", 16484)", bench.keeps(cell, 16_484), false);
        }
    }
}

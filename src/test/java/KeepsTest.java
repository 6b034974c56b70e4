/** Promise 4: which matrices keep a cell's six as they were told. */
public final class KeepsTest {
    private static final Check CHECK = new Check();
    private static final int IDENTITY = 16_484;

    public static void main(String[] args) {
        dueDigits();
        dueColumns();
        dueEachProduct();
        dueEveryTurn();
        dueTold();
        dueRangeOfNine();
        dueNoCell();
        CHECK.end();
    }

    private static CellBench benchWith(int... s) {
        CellBench bench = new CellBench();
        bench.cell(s[0], s[1], s[2], s[3], s[4], s[5]);
        return bench;
    }

    private static int nine(int... numbers) {
        int nine = 0;
        for (int number : numbers) {
            nine = 3 * nine + number + 1;
        }
        return nine;
    }

    private static void due(CellBench bench, String matrix, boolean want, int... numbers) {
        CHECK.due(matrix, bench.keeps(0, nine(numbers)), want);
    }

    private static int kept(int... s) {
        Lasting bench = new Lasting();
        bench.cell(s);
        int kept = 0;
        for (int nine = 0; nine < 19_683; nine++) {
            if (bench.now().keeps(0, nine)) {
                kept++;
            }
        }
        return kept;
    }

    private static void dueDigits() {
        CHECK.sentence("Promise 4", "nine has its numbers, row by row, each plus 1,"
                + " as its nine lowest digits written with a base of 3, the highest first.");
        CHECK.due("the identity's nine", nine(1, 0, 0, 0, 1, 0, 0, 0, 1), IDENTITY);
        CellBench low = benchWith(10, 11, 12, 1, 2, 3);
        CHECK.due("keeps(0, 16484)", low.keeps(0, 16_484), true);
        CHECK.due("keeps(0, 3198)", low.keeps(0, 3_198), true);
        // All numbers 0; one digit of the identity away from it.
        CHECK.due("keeps(0, 9841)", low.keeps(0, 9_841), false);
        for (int digit = 1; digit < 19_683; digit *= 3) {
            boolean diagonal = IDENTITY / digit % 3 == 2;
            int other = diagonal ? IDENTITY - digit : IDENTITY + digit;
            CHECK.due("keeps(0, " + other + ")", low.keeps(0, other), false);
        }
        CHECK.due("matrices that keep it", kept(10, 11, 12, 1, 2, 3), 2);
        CellBench square = benchWith(10, 10, 30, 0, 0, 0);
        due(square, "quarter turn", true, 0, -1, 0, 1, 0, 0, 0, 0, 1);
        due(low, "quarter turn of another cell", false, 0, -1, 0, 1, 0, 0, 0, 0, 1);
        due(square, "third turn", false, 0, 0, 1, 1, 0, 0, 0, 1, 0);
        CHECK.due("matrices that keep it", kept(10, 10, 30, 0, 0, 0), 16);
    }

    /** Here the rows and the columns of a matrix don't do the same. */
    private static void dueColumns() {
        CHECK.sentence("Promise 4", "(the k-th is the sum of edges times the k-th column) have the same products");
        CellBench bench = benchWith(1, 2, 1, 0, 0, 1);
        due(bench, "edges a, a - b", false, 1, 1, 0, 0, -1, 0, 0, 0, 1);
        due(bench, "edges b - a, b", true, -1, 0, 0, 1, 1, 0, 0, 0, 1);
        due(bench, "rows for columns", false, -1, 1, 0, 0, 1, 0, 0, 0, 1);
        CellBench turned = benchWith(1, 1, 2, 1, 0, 0);
        due(turned, "edges a, c - b, c", true, 1, 0, 0, 0, -1, 0, 0, 1, 1);
        due(turned, "rows for columns", false, 1, 0, 0, 0, -1, 1, 0, 0, 1);
        CellBench six = benchWith(10, 10, 30, 0, 0, 5);
        due(six, "sixth of a turn", true, 1, 1, 0, -1, 0, 0, 0, 0, 1);
        CHECK.due("matrices that keep it", kept(10, 10, 30, 0, 0, 5), 24);
    }

    /** Each matrix leaves all but one of the products as they were. */
    private static void dueEachProduct() {
        CHECK.sentence("Promise 4", "KEEPS six numbers if the edges that it makes of these");
        CellBench right = benchWith(10, 11, 12, 0, 0, 0);
        due(right, "no first edge", false, 0, 0, 0, 0, 1, 0, 0, 0, 1);
        due(right, "no second edge", false, 1, 0, 0, 0, 0, 0, 0, 0, 1);
        due(right, "no third edge", false, 1, 0, 0, 0, 1, 0, 0, 0, 0);
        due(right, "mirrored", true, 1, 0, 0, 0, 1, 0, 0, 0, -1);
        CellBench withD = benchWith(10, 11, 12, 1, 0, 0);
        due(withD, "D changes", false, 1, 0, 0, 0, 1, 0, 0, 0, -1);
        due(withD, "E and F alone would", true, -1, 0, 0, 0, 1, 0, 0, 0, 1);
        CellBench withE = benchWith(10, 11, 12, 0, 1, 0);
        due(withE, "E changes", false, 1, 0, 0, 0, 1, 0, 0, 0, -1);
        due(withE, "D and F alone would", true, 1, 0, 0, 0, -1, 0, 0, 0, 1);
        CellBench withF = benchWith(10, 11, 12, 0, 0, 1);
        due(withF, "F changes", false, 1, 0, 0, 0, -1, 0, 0, 0, 1);
        due(withF, "D and E alone would", true, 1, 0, 0, 0, 1, 0, 0, 0, -1);
    }

    /** Every matrix that comes back to the identity keeps some cell: the sum over all its turns of one. */
    private static void dueEveryTurn() {
        CHECK.sentence("Promise 4", "A MATRIX, of nine numbers -1, 0, 1, KEEPS six numbers");
        int turns = 0;
        for (int nine = 0; nine < 19_683; nine++) {
            long[] six = Plain.keptBy(nine);
            if (six.length == 6) {
                turns++;
                CellBench bench = benchWith((int) six[0], (int) six[1], (int) six[2],
                        (int) six[3], (int) six[4], (int) six[5]);
                CHECK.due("keeps(0, " + nine + ")", bench.keeps(0, nine), true);
            }
        }
        CHECK.due("more than those of one cell", turns > 48, true);
    }

    /** Told by long edges, the cell of whole numbers is kept by fewer matrices than reduced. */
    private static void dueTold() {
        CHECK.sentence("Promise 4", "Whether a MATRIX KEEPS a CELL's six as they were told");
        CellBench bench = benchWith(1, 10, 17, 12, 4, 3);
        int want = Plain.symmetry(new long[] {1, 10, 17, 12, 4, 3});
        CHECK.due("reduced(0, 6)", bench.reduced(0, 6), 48);
        CHECK.due("fewer than 48", want < 48, true);
        CHECK.due("matrices that keep it", kept(1, 10, 17, 12, 4, 3), want);
        due(bench, "mirrored along the reduced edges", false, 1, 0, 0, 0, 1, 0, 0, 0, -1);
        CellBench set = benchWith(12, 11, 10, 0, 0, 3);
        due(set, "mirrored along the third edge told", true, 1, 0, 0, 0, 1, 0, 0, 0, -1);
        due(set, "mirrored along the first edge told", false, -1, 0, 0, 0, 1, 0, 0, 0, 1);
        // The signs are not set as in the reduced six, either.
        CellBench signs = benchWith(10, 10, 30, 1, 1, 0);
        due(signs, "a and b change places", true, 0, 1, 0, 1, 0, 0, 0, 0, 1);
        CellBench mixed = benchWith(10, 10, 30, 1, -1, 0);
        due(mixed, "a and b change places", false, 0, 1, 0, 1, 0, 0, 0, 0, 1);
        due(mixed, "and c turns, too", true, 0, 1, 0, 1, 0, 0, 0, 0, -1);
    }

    private static void dueRangeOfNine() {
        CHECK.sentence("Promise 4", "nine isn't 0 .. 19,682.");
        // 19,423 and 259 are the highest and the lowest that keep any cell.
        CellBench bench = benchWith(1, 2, 3, 1, 1, 0);
        CHECK.due("keeps(0, 19423)", bench.keeps(0, 19_423), true);
        CHECK.due("keeps(0, 259)", bench.keeps(0, 259), true);
        CHECK.due("keeps(0, 0)", bench.keeps(0, 0), false);
        CHECK.due("keeps(0, 19682)", bench.keeps(0, 19_682), false);
        CHECK.due("keeps(0, -1)", bench.keeps(0, -1), false);
        CHECK.due("keeps(0, 19683)", bench.keeps(0, 19_683), false);
        CHECK.due("keeps(0, the lowest)", bench.keeps(0, Integer.MIN_VALUE), false);
        CHECK.due("keeps(0, the highest)", bench.keeps(0, Integer.MAX_VALUE), false);
        // Their nine lowest digits are a matrix that keeps it; so are those of 2^16 more, or less.
        for (int keeper : new int[] {IDENTITY, 3_198, 19_423, 259}) {
            for (int k = 1; k <= 3; k++) {
                CHECK.due("nine beyond by " + k, bench.keeps(0, keeper + k * 19_683), false);
                CHECK.due("nine below by " + k, bench.keeps(0, keeper - k * 19_683), false);
                CHECK.due("nine beyond by bits", bench.keeps(0, keeper + k * 65_536), false);
                CHECK.due("nine below by bits", bench.keeps(0, keeper - k * 65_536), false);
            }
            CHECK.due("nine below 0", bench.keeps(0, -keeper), false);
        }
    }

    private static void dueNoCell() {
        CHECK.sentence("Promise 4", "False when there is no such CELL");
        CellBench bench = benchWith(1, 1, 1, 0, 0, 0);
        for (int cell : new int[] {-1, 1, 39, 40, Integer.MAX_VALUE, Integer.MIN_VALUE}) {
            CHECK.due("keeps(" + cell + ", 16484)", bench.keeps(cell, IDENTITY), false);
            CHECK.due("keeps(" + cell + ", -1)", bench.keeps(cell, -1), false);
        }
        CHECK.dueCell(bench, -1, 0, 0, 0, 0, 0, 0);
        CHECK.due("keeps(1, 16484)", bench.keeps(1, IDENTITY), false);
        CHECK.dueCell(bench, 1, 2, 2, 2, 0, 0, 0);
        CHECK.due("keeps(1, 16484)", bench.keeps(1, IDENTITY), true);
        CHECK.due("keeps(2, 16484)", bench.keeps(2, IDENTITY), false);
    }
}

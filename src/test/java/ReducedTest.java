import java.util.Arrays;

/** Promise 3: the reduced six, the symmetry, the determinant and the count of steps. */
public final class ReducedTest {
    private static final Check CHECK = new Check();

    public static void main(String[] args) {
        dueStep1();
        dueStep2();
        dueSteps3And4();
        dueStep5();
        dueStep6();
        dueStep7();
        dueStep8();
        dueHalves();
        dueSymmetries();
        dueDeterminant();
        dueHowManySteps();
        dueNothing();
        CHECK.end();
    }

    private static void due(int[] s, long... want) {
        CellBench bench = new CellBench();
        CHECK.due("cell" + Arrays.toString(s), bench.cell(s[0], s[1], s[2], s[3], s[4], s[5]), 0);
        for (int what = 0; what < want.length; what++) {
            CHECK.due("reduced(0, " + what + ") of " + Arrays.toString(s), bench.reduced(0, what), want[what]);
        }
    }

    /** The reduced six and how many steps (5) to (8) were done, but not what lies between. */
    private static void dueDone(int done, int[] s, long... want) {
        due(s, want);
        CellBench bench = new CellBench();
        bench.cell(s[0], s[1], s[2], s[3], s[4], s[5]);
        CHECK.due("reduced(0, 8) of " + Arrays.toString(s), bench.reduced(0, 8), done);
    }

    private static int[] six(int... s) {
        return s;
    }

    private static void dueStep1() {
        CHECK.sentence("Promise 3", "(1) A > B, or A = B and |X| > |Y|: A and B, X and Y change places.");
        dueDone(0, six(10, 11, 12, 1, 2, 3), 10, 11, 12, 1, 2, 3);
        dueDone(0, six(11, 10, 12, 1, 2, 3), 10, 11, 12, 2, 1, 3);
        dueDone(0, six(10, 10, 12, 2, 1, 3), 10, 10, 12, 1, 2, 3);
        dueDone(0, six(10, 10, 12, 1, 2, 3), 10, 10, 12, 1, 2, 3);
        dueDone(0, six(10, 10, 12, 2, 2, 3), 10, 10, 12, 2, 2, 3);
        // A = B where the larger one of |X| and |Y| is the one below 0.
        dueDone(0, six(10, 10, 12, -2, 1, -3), 10, 10, 12, 1, 2, 3);
        dueDone(0, six(10, 10, 12, 1, -2, -3), 10, 10, 12, 1, 2, 3);
        dueDone(0, six(10, 10, 12, -2, 1, 3), 10, 10, 12, -1, -2, -3);
        // A < B leaves X and Y alone, however large X is.
        dueDone(0, six(10, 11, 12, 5, 1, 1), 10, 11, 12, 5, 1, 1);
    }

    private static void dueStep2() {
        CHECK.sentence("Promise 3", "(2) B > C, or B = C and |Y| > |Z|: B and C, Y and Z change places; from (1).");
        dueDone(0, six(10, 12, 11, 1, 2, 3), 10, 11, 12, 1, 3, 2);
        dueDone(0, six(10, 12, 12, 1, 3, 2), 10, 12, 12, 1, 2, 3);
        dueDone(0, six(10, 12, 12, 1, 2, 3), 10, 12, 12, 1, 2, 3);
        dueDone(0, six(10, 12, 12, 3, 2, 2), 10, 12, 12, 3, 2, 2);
        dueDone(0, six(10, 12, 12, -1, -3, 2), 10, 12, 12, 1, 2, 3);
        dueDone(0, six(10, 12, 12, -1, 2, -3), 10, 12, 12, 1, 2, 3);
        dueDone(0, six(10, 11, 12, 1, 4, 2), 10, 11, 12, 1, 4, 2);
        // From (1) on again: the shortest edge was the third one.
        dueDone(0, six(11, 12, 10, 1, 2, 3), 10, 11, 12, 3, 1, 2);
        dueDone(0, six(12, 11, 10, 1, 2, 3), 10, 11, 12, 3, 2, 1);
        // All edges are of one length: X, Y, Z are set in order, by (1), (2) and (1) again.
        dueDone(0, six(10, 10, 10, 3, 2, 1), 10, 10, 10, 1, 2, 3);
        dueDone(0, six(10, 10, 10, 2, 3, 1), 10, 10, 10, 1, 2, 3);
        dueDone(0, six(10, 10, 10, 3, 1, 2), 10, 10, 10, 1, 2, 3);
    }

    private static void dueSteps3And4() {
        CHECK.sentence("Promise 3", "(3) X Y Z > 0: X, Y, Z become |X|, |Y|, |Z|; else (4) -|X|, -|Y|, -|Z|.");
        due(six(10, 11, 12, 1, 2, 3), 10, 11, 12, 1, 2, 3, 2, 1170, 0);
        due(six(10, 11, 12, -1, -2, 3), 10, 11, 12, 1, 2, 3, 2, 1170, 0);
        due(six(10, 11, 12, -1, 2, -3), 10, 11, 12, 1, 2, 3, 2, 1170, 0);
        due(six(10, 11, 12, 1, -2, -3), 10, 11, 12, 1, 2, 3, 2, 1170, 0);
        due(six(10, 11, 12, -1, -2, -3), 10, 11, 12, -1, -2, -3, 2, 1146, 0);
        due(six(10, 11, 12, 1, 2, -3), 10, 11, 12, -1, -2, -3, 2, 1146, 0);
        due(six(10, 11, 12, 1, -2, 3), 10, 11, 12, -1, -2, -3, 2, 1146, 0);
        due(six(10, 11, 12, -1, 2, 3), 10, 11, 12, -1, -2, -3, 2, 1146, 0);
        // X Y Z is 0.
        due(six(10, 11, 12, 0, 2, 3), 10, 11, 12, 0, -2, -3, 2, 1168, 0);
        due(six(10, 11, 12, 0, -2, 3), 10, 11, 12, 0, -2, -3, 2, 1168, 0);
        due(six(10, 11, 12, 1, 0, 3), 10, 11, 12, -1, 0, -3, 2, 1202, 0);
        due(six(10, 11, 12, -1, 0, -3), 10, 11, 12, -1, 0, -3, 2, 1202, 0);
        due(six(10, 11, 12, 1, 2, 0), 10, 11, 12, -1, -2, 0, 2, 1266, 0);
        due(six(10, 11, 12, 0, 0, 3), 10, 11, 12, 0, 0, -3, 4, 1212, 0);
        due(six(10, 11, 12, 0, 0, 0), 10, 11, 12, 0, 0, 0, 8, 1320, 0);
        // X Y Z is too large for an int: it would wrap around to 0, to below 0, or to above 0.
        due(six(9_000, 9_500, 10_000, 1_024, 1_024, 1_024), 9_000, 9_500, 10_000, 1_024, 1_024, 1_024);
        due(six(9_000, 9_500, 10_000, 700, 700, 700), 9_000, 9_500, 10_000, 700, 700, 700);
        due(six(9_000, 9_500, 10_000, -700, -700, -700), 9_000, 9_500, 10_000, -700, -700, -700);
        due(six(9_000, 9_500, 10_000, -2_000, -2_100, 2_200), 9_000, 9_500, 10_000, 2_000, 2_100, 2_200);
    }

    private static void dueStep5() {
        CHECK.sentence("Promise 3", "(5) |X| > B, or X = B and 2Y < Z, or X = -B and Z < 0: with s 1 or -1 as X is:"
                + " C becomes B + C - s X, Y Y - s Z, X X - 2 s B (all from what was); from (1).");
        // |X| is one below B, and one above it.
        dueDone(0, six(9, 11, 21, 5, 0, 0), 9, 11, 21, -5, 0, 0);
        dueDone(1, six(9, 11, 21, 6, 0, 0), 9, 11, 20, -5, 0, 0);
        dueDone(1, six(9, 11, 21, -6, 0, 0), 9, 11, 20, -5, 0, 0);
        // All from what was: Y by the old Z, C by the old X.
        dueDone(1, six(10, 11, 30, 6, 4, 1), 10, 11, 29, -5, -3, -1);
        dueDone(1, six(10, 11, 30, -6, -3, -1), 10, 11, 29, 5, 4, 1);
        // X = B: 2Y below Z, just as large, and above it.
        dueDone(1, six(9, 10, 12, 5, 1, 3), 9, 10, 12, 5, 2, 3);
        dueDone(0, six(9, 10, 12, 5, 2, 4), 9, 10, 12, 5, 2, 4);
        dueDone(0, six(9, 10, 12, 5, 2, 3), 9, 10, 12, 5, 2, 3);
        // X = -B: Z below 0, and 0.
        dueDone(1, six(9, 10, 12, -5, -1, -1), 9, 10, 12, 5, 2, 1);
        dueDone(0, six(9, 10, 12, -5, -1, 0), 9, 10, 12, -5, -1, 0);
        // An edge that holds another one just once too often.
        due(six(9, 10, 21, 10, 0, 0), 9, 10, 11, 0, 0, 0, 8, 990, 1);
        due(six(9, 10, 21, -10, 0, 0), 9, 10, 11, 0, 0, 0, 8, 990, 1);
    }

    private static void dueStep6() {
        CHECK.sentence("Promise 3", "(6) |Y| > A, or Y = A and 2X < Z, or Y = -A and Z < 0: s by Y:"
                + " C becomes A + C - s Y, X X - s Z, Y Y - 2 s A; from (1).");
        dueDone(0, six(11, 12, 21, 0, 5, 0), 11, 12, 21, 0, -5, 0);
        dueDone(1, six(11, 12, 21, 0, 6, 0), 11, 12, 20, 0, -5, 0);
        dueDone(1, six(11, 12, 21, 0, -6, 0), 11, 12, 20, 0, -5, 0);
        dueDone(1, six(11, 12, 30, 4, 6, 1), 11, 12, 29, -3, -5, -1);
        dueDone(1, six(11, 12, 30, -3, -6, -1), 11, 12, 29, 4, 5, 1);
        dueDone(1, six(10, 11, 12, 1, 5, 3), 10, 11, 12, 2, 5, 3);
        dueDone(0, six(10, 11, 12, 2, 5, 4), 10, 11, 12, 2, 5, 4);
        dueDone(0, six(10, 11, 12, 2, 5, 3), 10, 11, 12, 2, 5, 3);
        dueDone(1, six(10, 11, 12, -1, -5, -1), 10, 11, 12, 2, 5, 1);
        dueDone(0, six(10, 11, 12, -1, -5, 0), 10, 11, 12, -1, -5, 0);
        due(six(9, 10, 20, 0, 9, 0), 9, 10, 11, 0, 0, 0, 8, 990, 1);
    }

    private static void dueStep7() {
        CHECK.sentence("Promise 3", "(7) |Z| > A, or Z = A and 2X < Y, or Z = -A and Y < 0: s by Z:"
                + " B becomes A + B - s Z, X X - s Y, Z Z - 2 s A; from (1).");
        dueDone(0, six(11, 20, 21, 0, 0, 5), 11, 20, 21, 0, 0, -5);
        dueDone(1, six(11, 20, 21, 0, 0, 6), 11, 19, 21, 0, 0, -5);
        dueDone(1, six(11, 20, 21, 0, 0, -6), 11, 19, 21, 0, 0, -5);
        dueDone(1, six(11, 29, 30, 4, 1, 6), 11, 28, 30, -3, -1, -5);
        dueDone(1, six(11, 29, 30, -3, -1, -6), 11, 28, 30, 4, 1, 5);
        dueDone(1, six(10, 11, 12, 1, 3, 5), 10, 11, 12, 2, 3, 5);
        dueDone(0, six(10, 11, 12, 2, 4, 5), 10, 11, 12, 2, 4, 5);
        dueDone(0, six(10, 11, 12, 2, 3, 5), 10, 11, 12, 2, 3, 5);
        dueDone(1, six(10, 11, 12, -1, -1, -5), 10, 11, 12, 2, 1, 5);
        dueDone(0, six(10, 11, 12, -1, 0, -5), 10, 11, 12, -1, 0, -5);
        due(six(9, 19, 21, 0, 0, 9), 9, 10, 21, 0, 0, 0, 8, 1890, 1);
        // From (1) on again: B has become shorter than A.
        dueDone(1, six(10, 12, 30, 1, 2, 9), 4, 10, 30, 2, 1, 1);
    }

    private static void dueStep8() {
        CHECK.sentence("Promise 3", "(8) S = X + Y + Z + A + B: S < 0, or S = 0 and 2 (A + Y) + Z > 0:"
                + " C becomes C + S, X 2B + X + Z, Y 2A + Y + Z; from (1).");
        // S is 1, and -1.
        dueDone(0, six(10, 11, 13, -5, -3, -2), 10, 11, 13, -5, -3, -2);
        dueDone(1, six(10, 11, 13, -5, -3, -3), 10, 11, 12, -3, -4, -3);
        // S is 0, and what decides then is above 0, 0, and below 0.
        dueDone(1, six(10, 12, 13, -5, -2, -4), 10, 12, 13, -3, -4, -4);
        dueDone(0, six(10, 12, 13, -4, -3, -4), 10, 12, 13, -4, -3, -4);
        dueDone(0, six(10, 12, 13, -3, -4, -4), 10, 12, 13, -3, -4, -4);
        due(six(10, 11, 12, -5, -4, -4), 7, 10, 11, -4, -2, -2, 2, 542, 1);
        due(six(10, 10, 10, -4, -4, -3), 8, 10, 10, -3, -3, -3, 4, 494, 2);
    }

    private static void dueHalves() {
        CHECK.sentence("Promise 3", "Then D, E, F are halves of X, Y, Z.");
        due(six(3, 3, 3, -1, -1, -1), 3, 3, 3, -1, -1, -1);
        due(six(3, 5, 7, 1, 1, 1), 3, 5, 7, 1, 1, 1);
        due(six(10_000, 10_000, 10_000, 4_999, 4_999, 4_999), 10_000, 10_000, 10_000, 4_999, 4_999, 4_999);
        // The example of Krivy and Gruber's paper, here times 4.
        due(six(36, 108, 16, -10, -8, -44), 16, 36, 36, 18, 6, 8);
    }

    private static void dueSymmetry(int want, int... s) {
        CellBench bench = new CellBench();
        bench.cell(s[0], s[1], s[2], s[3], s[4], s[5]);
        CHECK.due("symmetry of " + Arrays.toString(s), bench.reduced(0, 6), want);
    }

    private static void dueSymmetries() {
        CHECK.sentence("Promise 3", "The SYMMETRY of a CELL: how many MATRICES KEEP its reduced six.");
        dueSymmetry(48, 7, 7, 7, 0, 0, 0);
        dueSymmetry(48, 10, 10, 10, 5, 5, 5);
        dueSymmetry(48, 3, 3, 3, -1, -1, -1);
        dueSymmetry(24, 10, 10, 17, 0, 0, 5);
        dueSymmetry(24, 10, 10, 17, 0, 0, -5);
        dueSymmetry(16, 10, 10, 17, 0, 0, 0);
        dueSymmetry(16, 10, 17, 17, 0, 0, 0);
        dueSymmetry(12, 10, 10, 10, 2, 2, 2);
        dueSymmetry(12, 10, 10, 10, -2, -2, -2);
        dueSymmetry(8, 10, 11, 12, 0, 0, 0);
        dueSymmetry(4, 10, 11, 12, 0, 3, 0);
        // The fewest: as it is, and turned about its middle.
        dueSymmetry(2, 10, 11, 12, 1, 2, 3);
        // The largest numbers.
        dueSymmetry(48, 10_000, 10_000, 10_000, 0, 0, 0);
        dueSymmetry(48, 10_000, 10_000, 10_000, 5_000, 5_000, 5_000);
        // Told by far longer edges, which fewer matrices keep.
        dueSymmetry(48, 1, 10, 17, 12, 4, 3);
        dueSymmetry(16, 1, 1, 10_000, 0, 99, 0);
    }

    private static void dueDeterminant() {
        CHECK.sentence("Promise 3", "the determinant (7)");
        due(six(1, 1, 1, 0, 0, 0), 1, 1, 1, 0, 0, 0, 48, 1, 0);
        due(six(1, 10, 17, 12, 4, 3), 1, 1, 1, 0, 0, 0, 48, 1);
        due(six(10_000, 10_000, 10_000, 0, 0, 0), 10_000, 10_000, 10_000, 0, 0, 0, 48, 1_000_000_000_000L, 0);
        CellBench bench = new CellBench();
        bench.cell(10_000, 10_000, 10_000, 9_999, 9_999, 9_999);
        CHECK.due("reduced(0, 7)", bench.reduced(0, 7), 29_998);
    }

    private static void dueHowManySteps() {
        CHECK.sentence("Promise 3",
                "how many times a STEP (5), (6), (7) or (8) was done to reduce it (8)");
        // None, though steps (1) to (4) were done.
        due(six(12, 11, 10, 1, 2, -3), 10, 11, 12, -3, -2, -1, 2, 1162, 0);
        // 99 times the first edge to be taken away, one at a time.
        due(six(1, 1, 10_000, 0, 99, 0), 1, 1, 199, 0, 0, 0, 16, 199, 99);
        due(six(1, 1, 10_000, 0, -99, 0), 1, 1, 199, 0, 0, 0, 16, 199, 99);
        due(six(1, 1, 10_000, 70, 71, 0), 1, 1, 59, 0, 0, 0, 16, 59, 141);
        // The steps of a cell told later are its own.
        CellBench bench = new CellBench();
        bench.cell(1, 1, 10_000, 0, 99, 0);
        bench.cell(1, 1, 1, 0, 0, 0);
        bench.multiples(0, 12);
        CHECK.due("reduced(0, 8)", bench.reduced(0, 8), 99);
        CHECK.due("reduced(1, 8)", bench.reduced(1, 8), 0);
    }

    private static void dueNothing() {
        CHECK.sentence("Promise 3", "0 when there is none such, or for another what.");
        CellBench bench = new CellBench();
        bench.cell(10, 11, 12, 1, 2, 3);
        bench.cell(11, 12, 33, 7, 8, 9);
        for (int what : new int[] {-1, 9, 10, 256, 65_536, Integer.MAX_VALUE, Integer.MIN_VALUE}) {
            CHECK.due("reduced(0, " + what + ")", bench.reduced(0, what), 0);
            CHECK.due("reduced(1, " + what + ")", bench.reduced(1, what), 0);
        }
        for (int cell : new int[] {-1, 2, 3, 39, 40, 41, Integer.MAX_VALUE, Integer.MIN_VALUE}) {
            for (int what = -1; what <= 9; what++) {
                CHECK.due("reduced(" + cell + ", " + what + ")", bench.reduced(cell, what), 0);
            }
        }
        CHECK.due("reduced(0, 0)", bench.reduced(0, 0), 10);
        CHECK.due("reduced(1, 8)", bench.reduced(1, 8) > 0, true);
    }
}

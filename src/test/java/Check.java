/** Counts the answers that are not as due, and ends a test by them. */
final class Check {
    private int wrong;
    private int looked;

    void due(String call, long got, long want) {
        looked++;
        if (got != want) {
            wrong++;
            System.out.println(call + " answered " + got + ", due is " + want);
        }
    }

    void due(String call, boolean got, boolean want) {
        due(call, got ? 1L : 0L, want ? 1L : 0L);
    }

    /** The reduced six of a cell. */
    void dueReduced(CellBench bench, int cell, long... want) {
        for (int what = 0; what < want.length; what++) {
            due("reduced(" + cell + ", " + what + ")", bench.reduced(cell, what), want[what]);
        }
    }

    /** A multiple's six, and behind them how many edges come to it. */
    void dueMultiple(CellBench bench, int cell, int n, int k, long... want) {
        for (int what = 0; what < want.length; what++) {
            due("multiple(" + cell + ", " + n + ", " + k + ", " + what + ")",
                    bench.multiple(cell, n, k, what), want[what]);
        }
    }

    void end() {
        System.out.println(looked + " answers looked at, " + wrong + " not as due");
        if (wrong != 0 || looked == 0) {
            System.exit(1);
        }
    }
}

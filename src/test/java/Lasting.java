import java.util.ArrayList;
import java.util.List;

/**
 * An object with some cells for more than 512 calls: it is made anew, and its
 * cells are told again, whenever the calls that the document allows are used up.
 */
final class Lasting {
    private static final int CALLS = 512;

    private final List<int[]> told = new ArrayList<>();
    private CellBench bench = new CellBench();
    private int calls;

    /** The object, for one call of it, but for cell. */
    CellBench now() {
        if (calls >= CALLS) {
            bench = new CellBench();
            calls = 0;
            for (int[] s : told) {
                now().cell(s[0], s[1], s[2], s[3], s[4], s[5]);
            }
        }
        calls++;
        return bench;
    }

    /** A refused six is not told again, since it must have left nothing behind. */
    int cell(int... s) {
        int number = now().cell(s[0], s[1], s[2], s[3], s[4], s[5]);
        if (number >= 0) {
            told.add(s.clone());
        }
        return number;
    }
}

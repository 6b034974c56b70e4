import java.util.Arrays;
import java.util.List;
import java.util.Map;
import java.util.TreeMap;

/**
 * Every cell of numbers up to 3, where equal numbers, and so the steps' second
 * conditions, are met most: reduced, and its multiples, against the edges as
 * they were told.
 */
public final class SmallCellsTest {
    private static final Check CHECK = new Check();
    private static final int TOP = 3;
    private static final int WIDTH = 2 * TOP + 1;

    public static void main(String[] args) {
        int all = TOP * TOP * TOP * WIDTH * WIDTH * WIDTH;
        for (int number = 0; number < all; number++) {
            dueSix(six(number));
        }
        CHECK.end();
    }

    private static int[] six(int number) {
        int[] six = new int[6];
        int rest = number;
        for (int i = 0; i < 6; i++) {
            int choices = i < 3 ? TOP : WIDTH;
            six[i] = rest % choices + (i < 3 ? 1 : -TOP);
            rest /= choices;
        }
        return six;
    }

    private static void dueSix(int[] six) {
        Lasting bench = new Lasting();
        boolean taken = Plain.isCell(six);
        CHECK.due("cell" + Arrays.toString(six), bench.cell(six), taken ? 0 : -1);
        if (taken) {
            dueReduced(bench, six);
            for (int n = 1; n <= 12; n++) {
                dueMultiples(bench, six, n);
            }
        }
    }

    private static void dueReduced(Lasting bench, int[] six) {
        String name = Arrays.toString(six);
        List<Long> low = Plain.reduce(Plain.toLongs(six));
        for (int what = 0; what < 6; what++) {
            CHECK.due(name + " reduced " + what, bench.now().reduced(0, what), low.get(what));
        }
        CHECK.due(name + " reduced 6", bench.now().reduced(0, 6), Plain.symmetry(Plain.sixOf(low)));
        CHECK.due(name + " reduced 8", bench.now().reduced(0, 8), low.get(6));
    }

    private static void dueMultiples(Lasting bench, int[] six, int n) {
        String name = Arrays.toString(six) + " by " + n;
        TreeMap<List<Long>, Integer> want = Plain.multiples(Plain.toLongs(six), n);
        CHECK.due(name + " multiples", bench.now().multiples(0, n), want.size());
        int k = 0;
        for (Map.Entry<List<Long>, Integer> row : want.entrySet()) {
            for (int what = 0; what < 6; what++) {
                CHECK.due(name + " multiple " + k + " " + what,
                        bench.now().multiple(0, n, k, what), row.getKey().get(what));
            }
            CHECK.due(name + " multiple " + k + " 6", bench.now().multiple(0, n, k, 6), row.getValue());
            k++;
        }
    }
}

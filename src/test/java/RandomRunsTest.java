import java.util.ArrayList;
import java.util.Arrays;
import java.util.List;
import java.util.Map;
import java.util.Random;
import java.util.TreeMap;

/** Many cells of several kinds: every promise's answers against the plainest form of the document's terms. */
public final class RandomRunsTest {
    private static final Check CHECK = new Check();

    public static void main(String[] args) {
        Random random = new Random(20_261_115);
        int kinds = 6;
        for (int run = 0; run < 60; run++) {
            runOne(random, run % kinds, run < 24);
        }
        CHECK.end();
    }

    private static void runOne(Random random, int kind, boolean withMultiples) {
        Lasting bench = new Lasting();
        List<int[]> told = new ArrayList<>();
        for (int i = 0; i < 60 && told.size() < 40; i++) {
            int[] six = told.isEmpty() || random.nextInt(4) != 0
                    ? randomSix(random, kind) : changedBasis(random, told.get(random.nextInt(told.size())));
            boolean taken = Plain.isCell(six);
            CHECK.due("cell" + Arrays.toString(six),
                    bench.cell(six), taken ? told.size() : -1);
            if (taken) {
                told.add(six);
            }
        }
        for (int cell = 0; cell < told.size(); cell++) {
            compareReduced(bench, told, cell, random);
            compareRoutes(bench, told, cell, random);
        }
        for (int turn = 0; withMultiples && turn < 6 && !told.isEmpty(); turn++) {
            compareMultiples(bench, told, random);
        }
    }

    private static int[] randomSix(Random random, int kind) {
        int top = kind == 0 ? 3 : kind == 1 ? 12 : kind == 2 ? 200 : 10_000;
        int[] six = new int[6];
        for (int i = 0; i < 3; i++) {
            six[i] = 1 + random.nextInt(top);
        }
        if (kind < 2 && random.nextBoolean()) {
            six[1] = six[0];
            six[2] = random.nextBoolean() ? six[0] : six[2];
        }
        six[3] = mixed(random, six[1], six[2], kind);
        six[4] = mixed(random, six[0], six[2], kind);
        six[5] = mixed(random, six[0], six[1], kind);
        if (kind == 5) {
            // One edge nearly the multiple of a far shorter one: the longest ways to reduce.
            six[0] = 1 + random.nextInt(3);
            six[5] = (int) Math.sqrt((double) six[0] * six[1] - 1);
            six[4] = (int) Math.sqrt((double) six[0] * six[2] - 1) - random.nextInt(3);
            six[3] = six[4] * six[5] / six[0];
        }
        return six;
    }

    private static int mixed(Random random, int left, int right, int kind) {
        double most = Math.sqrt((double) left * right);
        double share = kind == 4 ? 0.99 : random.nextDouble();
        int value = (int) (most * share) / (kind == 2 ? 2 : 1);
        return random.nextBoolean() ? value : -value;
    }

    /** The same lattice by other edges, so that the same reduced six come again. */
    private static int[] changedBasis(Random random, int[] six) {
        long[][] matrix = {{1, 0, 0}, {0, 1, 0}, {0, 0, 1}};
        for (int turn = 0; turn < 3; turn++) {
            int from = random.nextInt(3);
            int to = (from + 1 + random.nextInt(2)) % 3;
            int times = random.nextInt(5) - 2;
            for (int row = 0; row < 3; row++) {
                matrix[row][to] += times * matrix[row][from];
            }
        }
        long[] made = Plain.made(Plain.toLongs(six), matrix);
        int[] out = new int[6];
        for (int i = 0; i < 6; i++) {
            out[i] = (int) made[i];
        }
        return out;
    }

    private static void compareReduced(Lasting bench, List<int[]> told, int cell, Random random) {
        long[] six = Plain.toLongs(told.get(cell));
        String name = Arrays.toString(six);
        List<Long> low = Plain.reduce(six);
        for (int what = 0; what < 6; what++) {
            CHECK.due(name + " reduced " + what, bench.now().reduced(cell, what), low.get(what));
        }
        CHECK.due(name + " reduced 6", bench.now().reduced(cell, 6), Plain.symmetry(Plain.sixOf(low)));
        CHECK.due(name + " reduced 7", bench.now().reduced(cell, 7),
                Plain.determinant(told.get(cell)).longValueExact());
        CHECK.due(name + " reduced 8", bench.now().reduced(cell, 8), low.get(6));
        int first = 0;
        while (!Plain.reduce(Plain.toLongs(told.get(first))).subList(0, 6).equals(low.subList(0, 6))) {
            first++;
        }
        CHECK.due(name + " same", bench.now().same(cell), first);
        int spread = 1 + random.nextInt(40);
        for (int nine = random.nextInt(40); nine < 19_683; nine += spread) {
            CHECK.due(name + " keeps " + nine, bench.now().keeps(cell, nine), Plain.keeps(six, nine));
        }
    }

    private static void compareRoutes(Lasting bench, List<int[]> told, int cell, Random random) {
        long[] six = Plain.toLongs(told.get(cell));
        String name = Arrays.toString(six);
        for (int turn = 0; turn < 8; turn++) {
            int reach = turn < 4 ? 1_000 : 4;
            int x = random.nextInt(2 * reach + 1) - reach;
            int y = random.nextInt(2 * reach + 1) - reach;
            int z = random.nextInt(2 * reach + 1) - reach;
            CHECK.due(name + " step " + x + " " + y + " " + z,
                    bench.now().step(cell, x, y, z), Plain.length(six, x, y, z));
            long r = Plain.length(six, x % 5, y % 5, z % 5) - random.nextInt(2);
            CHECK.due(name + " shorter " + r, bench.now().shorter(cell, r), Plain.shorter(six, r));
        }
    }

    private static void compareMultiples(Lasting bench, List<int[]> told, Random random) {
        int cell = random.nextInt(told.size());
        int other = random.nextInt(told.size());
        long[] six = Plain.toLongs(told.get(cell));
        int n = 1 + random.nextInt(12);
        String name = Arrays.toString(six) + " by " + n;
        TreeMap<List<Long>, Integer> want = Plain.multiples(six, n);
        CHECK.due(name + " multiples", bench.now().multiples(cell, n), want.size());
        int k = 0;
        for (Map.Entry<List<Long>, Integer> row : want.entrySet()) {
            for (int what = 0; what < 6; what++) {
                CHECK.due(name + " multiple " + k + " " + what,
                        bench.now().multiple(cell, n, k, what), row.getKey().get(what));
            }
            CHECK.due(name + " multiple " + k + " 6", bench.now().multiple(cell, n, k, 6), row.getValue());
            k++;
        }
        int m = random.nextBoolean() ? n : 1 + random.nextInt(12);
        CHECK.due(name + " common " + other + " by " + m, bench.now().common(cell, n, other, m),
                Plain.common(six, n, Plain.toLongs(told.get(other)), m));
    }
}

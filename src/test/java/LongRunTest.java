import java.util.Random;

/** Runs as long as the document allows, with the dearest calls and with wild arguments: no call throws. */
public final class LongRunTest {
    private static final Check CHECK = new Check();
    private static final int CALLS = 512;
    private static final int[] WILD = {
        Integer.MIN_VALUE, -19_683, -1_001, -41, -1, 0, 1, 2, 3, 6, 8, 9, 12, 13, 39, 40, 41,
        455, 1_000, 1_001, 10_000, 10_001, 16_484, 19_682, 19_683, Integer.MAX_VALUE};

    public static void main(String[] args) {
        dueDearest();
        dueLast();
        dueRefusedOnly();
        dueWild(new Random(17));
        CHECK.end();
    }

    private static void dueDearest() {
        CHECK.sentence("What it is", "An object is used for at most 512 calls after it has been made");
        CellBench bench = new CellBench();
        for (int i = 0; i < 40; i++) {
            CHECK.due("cell", bench.cell(9_001 + i, 9_437, 9_973, 1_013, 2_203, 3_301), i);
        }
        for (int call = 40; call < CALLS; call++) {
            int cell = call % 40;
            int other = (call / 40 + cell) % 40;
            CHECK.due("common(" + cell + ", 12, " + other + ", 12)",
                    bench.common(cell, 12, other, 12), cell == other ? 455 : 0);
        }
    }

    /** The last of the 512 calls still makes a cell, or finds one that was made by the call before. */
    private static void dueLast() {
        CellBench making = new CellBench();
        CellBench asking = new CellBench();
        for (int call = 1; call < CALLS; call++) {
            CHECK.due("call " + call, making.same(0), -1);
            if (call < CALLS - 1) {
                CHECK.due("call " + call, asking.shorter(0, 1), -1);
            }
        }
        CHECK.due("call 512", making.cell(1, 1, 1, 0, 0, 0), 0);
        CHECK.due("call 511", asking.cell(1, 1, 1, 0, 0, 0), 0);
        CHECK.due("call 512", asking.shorter(0, 1), 6);
    }

    /** Refused calls count as calls, but use up none of the 40 cells. */
    private static void dueRefusedOnly() {
        CellBench bench = new CellBench();
        for (int call = 0; call < CALLS - 40; call++) {
            CHECK.due("refused", bench.cell(1, 1, 1, 1, 0, 0), -1);
        }
        for (int i = 0; i < 40; i++) {
            CHECK.due("cell", bench.cell(1, 1, 1, 0, 0, 0), i);
        }
    }

    private static void dueWild(Random random) {
        for (int run = 0; run < 400; run++) {
            CellBench bench = new CellBench();
            for (int call = 0; call < CALLS; call++) {
                callOne(bench, random);
            }
        }
        CHECK.due("no call has thrown", true, true);
    }

    private static int wild(Random random) {
        return random.nextInt(8) == 0 ? random.nextInt() : WILD[random.nextInt(WILD.length)];
    }

    private static void callOne(CellBench bench, Random random) {
        int a = wild(random);
        int b = wild(random);
        int c = wild(random);
        int d = wild(random);
        switch (random.nextInt(10)) {
            case 0 -> bench.cell(a, b, c, d, wild(random), wild(random));
            case 1 -> bench.cell(1 + random.nextInt(9), 1 + random.nextInt(9), 1 + random.nextInt(9),
                    random.nextInt(9) - 4, random.nextInt(9) - 4, random.nextInt(9) - 4);
            case 2 -> bench.reduced(a, b);
            case 3 -> bench.keeps(a, b);
            case 4 -> bench.same(a);
            case 5 -> bench.multiples(a, b);
            case 6 -> bench.multiple(a, b, c, d);
            case 7 -> bench.common(a, b, c, d);
            case 8 -> bench.step(a, b, c, d);
            default -> bench.shorter(a, (long) b * c);
        }
    }
}

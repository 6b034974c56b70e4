import java.lang.reflect.Constructor;
import java.lang.reflect.Field;
import java.lang.reflect.Method;
import java.lang.reflect.Modifier;
import java.util.Arrays;
import java.util.TreeSet;

/** The public face, and promise 1: a new object has no cells. */
public final class FaceTest {
    private static final Check CHECK = new Check();

    public static void main(String[] args) {
        dueMembers();
        dueNoCells(new CellBench());
        dueApart();
        CHECK.end();
    }

    private static void dueMembers() {
        TreeSet<String> found = new TreeSet<>();
        for (Method method : CellBench.class.getDeclaredMethods()) {
            if (!Modifier.isPrivate(method.getModifiers())) {
                found.add(method.toString());
            }
        }
        for (Field field : CellBench.class.getDeclaredFields()) {
            if (!Modifier.isPrivate(field.getModifiers())) {
                found.add(field.toString());
            }
        }
        for (Constructor<?> constructor : CellBench.class.getDeclaredConstructors()) {
            if (!Modifier.isPrivate(constructor.getModifiers())) {
                found.add(constructor.toString());
            }
        }
        TreeSet<String> want = new TreeSet<>(Arrays.asList(
                "public static final int CellBench.NONE",
                "public CellBench()",
                "public int CellBench.cell(int,int,int,int,int,int)",
                "public long CellBench.reduced(int,int)",
                "public boolean CellBench.keeps(int,int)",
                "public int CellBench.same(int)",
                "public int CellBench.multiples(int,int)",
                "public long CellBench.multiple(int,int,int,int)",
                "public int CellBench.common(int,int,int,int)",
                "public long CellBench.step(int,int,int,int)",
                "public int CellBench.shorter(int,long)"));
        CHECK.due("the face is " + found + ": this", found.equals(want), true);
        CHECK.due("public and final", CellBench.class.getModifiers(), Modifier.PUBLIC | Modifier.FINAL);
        CHECK.due("NONE", CellBench.NONE, -1);
    }

    private static void dueNoCells(CellBench bench) {
        for (int cell : new int[] {0, 1, 39, 40, -1, Integer.MAX_VALUE, Integer.MIN_VALUE}) {
            for (int what = 0; what <= 8; what++) {
                CHECK.due("reduced(" + cell + ", " + what + ")", bench.reduced(cell, what), 0);
            }
            CHECK.due("keeps", bench.keeps(cell, 16_484), false);
            CHECK.due("same", bench.same(cell), -1);
            CHECK.due("multiples", bench.multiples(cell, 1), -1);
            CHECK.due("multiple", bench.multiple(cell, 1, 0, 0), 0);
            CHECK.due("common", bench.common(cell, 1, cell, 1), -1);
            CHECK.due("step", bench.step(cell, 1, 0, 0), 0);
            CHECK.due("shorter", bench.shorter(cell, 1_000), -1);
        }
        CHECK.due("the first cell", bench.cell(1, 1, 1, 0, 0, 0), 0);
    }

    /** Two objects know nothing of each other. */
    private static void dueApart() {
        CellBench one = new CellBench();
        one.cell(5, 6, 7, 0, 0, 0);
        CellBench two = new CellBench();
        CHECK.due("of the second object", two.reduced(0, 0), 0);
        CHECK.due("of the second object", two.cell(8, 9, 10, 0, 0, 0), 0);
        CHECK.due("of the first object", one.reduced(0, 0), 5);
        CHECK.due("of the second object", two.reduced(0, 0), 8);
    }
}

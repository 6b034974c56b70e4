import java.lang.reflect.Constructor;
import java.lang.reflect.Field;
import java.lang.reflect.Member;
import java.lang.reflect.Method;
import java.lang.reflect.Modifier;
import java.util.Arrays;
import java.util.TreeSet;

/** The public face, and promise 1: a new object has no cells. */
public final class FaceTest {
    private static final Check CHECK = new Check();

    public static void main(String[] args) {
        dueMembers();
        dueNoCells(new CellBench());
        dueNoCellsAfterFull();
        dueApart();
        CHECK.end();
    }

    private static void addOpen(TreeSet<String> found, Member[] members) {
        for (Member member : members) {
            if (!Modifier.isPrivate(member.getModifiers())) {
                found.add(member.toString());
            }
        }
    }

    private static void dueMembers() {
        CHECK.sentence("The public face", "public final class CellBench {");
        TreeSet<String> found = new TreeSet<>();
        Method[] methods = CellBench.class.getDeclaredMethods();
        Field[] fields = CellBench.class.getDeclaredFields();
        Constructor<?>[] constructors = CellBench.class.getDeclaredConstructors();
        addOpen(found, methods);
        addOpen(found, fields);
        addOpen(found, constructors);
        TreeSet<String> want = new TreeSet<>(Arrays.asList(
                "public static final int CellBench.NONE",
                "public CellBench()",
                "public int CellBench.cell(int,int,int,int,int,int)",
                "public long CellBench.reduced(int,int)",
                "public boolean CellBench.keeps(int,int)",
                "public int CellBench.same(int)",
                "public int CellBench.multiples(int,int)",
                "public long CellBench.multiple(int,int,int,int)",
                "public int CellBench.common(int,int,int,int)",
                "public long CellBench.step(int,int,int,int)",
                "public int CellBench.shorter(int,long)"));
        CHECK.due("the face is " + found + ": this", found.equals(want), true);
        CHECK.due("public and final", CellBench.class.getModifiers(), Modifier.PUBLIC | Modifier.FINAL);
        CHECK.sentence("The public face", "public static final int NONE = -1;");
        CHECK.due("NONE", CellBench.NONE, -1);
    }

    private static void dueNoCells(CellBench bench) {
        CHECK.sentence("Promise 1", "`CellBench()`: No CELLS.");
        for (int cell : new int[] {0, 1, 39, 40, -1, Integer.MAX_VALUE, Integer.MIN_VALUE}) {
            for (int what = 0; what <= 8; what++) {
                CHECK.due("reduced(" + cell + ", " + what + ")", bench.reduced(cell, what), 0);
            }
            CHECK.due("keeps(" + cell + ", 16484)", bench.keeps(cell, 16_484), false);
            CHECK.due("same(" + cell + ")", bench.same(cell), -1);
            CHECK.due("multiples(" + cell + ", 1)", bench.multiples(cell, 1), -1);
            CHECK.due("multiple(" + cell + ", 1, 0, 0)", bench.multiple(cell, 1, 0, 0), 0);
            CHECK.due("multiple(" + cell + ", 1, 0, 6)", bench.multiple(cell, 1, 0, 6), 0);
            CHECK.due("common(" + cell + ", 1, " + cell + ", 1)", bench.common(cell, 1, cell, 1), -1);
            CHECK.due("step(" + cell + ", 1, 0, 0)", bench.step(cell, 1, 0, 0), 0);
            CHECK.due("shorter(" + cell + ", 1000)", bench.shorter(cell, 1_000), -1);
        }
        CHECK.due("the first cell", bench.cell(1, 1, 1, 0, 0, 0), 0);
        CHECK.due("multiples(0, 1), asked before there was a cell", bench.multiples(0, 1), 1);
        CHECK.due("multiple(0, 1, 0, 6)", bench.multiple(0, 1, 0, 6), 1);
    }

    private static void dueNoCellsAfterFull() {
        CellBench full = new CellBench();
        for (int i = 0; i < 41; i++) {
            full.cell(1, 1, 1 + i, 0, 0, 0);
        }
        dueNoCells(new CellBench());
        CHECK.due("of the full one", full.reduced(39, 2), 40);
    }

    /** Two objects know nothing of each other. */
    private static void dueApart() {
        CellBench one = new CellBench();
        one.cell(5, 6, 7, 0, 0, 0);
        one.multiples(0, 2);
        CellBench two = new CellBench();
        CHECK.due("of the second object", two.reduced(0, 0), 0);
        CHECK.due("of the second object", two.cell(8, 9, 10, 0, 0, 0), 0);
        CHECK.due("of the first object", one.reduced(0, 0), 5);
        CHECK.due("of the second object", two.reduced(0, 0), 8);
        CHECK.due("of the second object", two.multiple(0, 2, 0, 0), 8);
        CHECK.due("of the first object", one.multiple(0, 2, 0, 0), 5);
    }
}

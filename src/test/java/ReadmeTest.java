import java.io.File;
import java.io.IOException;
import java.lang.reflect.InvocationTargetException;
import java.lang.reflect.Method;
import java.lang.reflect.Modifier;
import java.nio.file.Files;
import java.nio.file.Path;
import java.util.List;
import java.util.Set;
import java.util.TreeSet;
import java.util.regex.Matcher;
import java.util.regex.Pattern;

/** README.md: what it shows of the class's answers is what the class answers, and it names every call and test. */
public final class ReadmeTest {
    private static final Check CHECK = new Check();
    private static final Pattern SHOWN = Pattern.compile("bench\\.(\\w+)\\(([^)]*)\\); +// (-?\\d+|true|false)(,.*)?");
    private static final Pattern TABLE_CALL = Pattern.compile("\\| `(\\w+)\\(([^)]*)\\)` \\|.*");
    private static final Pattern TABLE_TEST = Pattern.compile("\\| (\\w+Test) \\|.*");

    public static void main(String[] args) throws Exception {
        List<String> lines = Files.readAllLines(Path.of("README.md"));
        dueShownAnswers(lines);
        dueTableOfCalls(lines);
        dueTableOfTests(lines);
        CHECK.end();
    }

    /** Every method of the face, by name: no two share one. */
    private static Set<String> face() {
        Set<String> names = new TreeSet<>();
        for (Method method : CellBench.class.getDeclaredMethods()) {
            if (Modifier.isPublic(method.getModifiers())) {
                names.add(method.getName());
            }
        }
        return names;
    }

    private static Method method(String name) {
        for (Method method : CellBench.class.getDeclaredMethods()) {
            if (Modifier.isPublic(method.getModifiers()) && method.getName().equals(name)) {
                return method;
            }
        }
        throw new IllegalArgumentException("README.md shows a call that isn't in the face: " + name);
    }

    private static void dueShownAnswers(List<String> lines)
            throws IllegalAccessException, InvocationTargetException {
        CellBench bench = new CellBench();
        Set<String> shown = new TreeSet<>();
        for (String line : lines) {
            if (!line.startsWith("bench.")) {
                continue;
            }
            Matcher call = SHOWN.matcher(line);
            boolean readable = call.matches();
            CHECK.due("README.md shows a call with its answer: " + line, readable, true);
            if (readable) {
                shown.add(call.group(1));
                String got = String.valueOf(answer(bench, method(call.group(1)), call.group(2)));
                CHECK.due("README.md: " + line + " answered " + got + ": this", got.equals(call.group(3)), true);
            }
        }
        CHECK.due("README.md shows each of " + face() + ": this", shown.equals(face()), true);
    }

    private static Object answer(CellBench bench, Method method, String told)
            throws IllegalAccessException, InvocationTargetException {
        String[] words = told.split(", ");
        Class<?>[] types = method.getParameterTypes();
        Object[] values = new Object[words.length];
        for (int i = 0; i < words.length; i++) {
            if (i < types.length && types[i] == long.class) {
                values[i] = Long.valueOf(words[i]);
            } else {
                values[i] = Integer.valueOf(words[i]);
            }
        }
        return method.invoke(bench, values);
    }

    private static void dueTableOfCalls(List<String> lines) {
        Set<String> named = new TreeSet<>();
        for (String line : lines) {
            Matcher call = TABLE_CALL.matcher(line);
            if (call.matches()) {
                named.add(call.group(1));
                CHECK.due("README.md: arguments of " + call.group(1),
                        call.group(2).split(", ").length, method(call.group(1)).getParameterCount());
            }
        }
        CHECK.due("README.md tells each of " + face() + ": this", named.equals(face()), true);
    }

    private static void dueTableOfTests(List<String> lines) throws IOException {
        Set<String> named = new TreeSet<>();
        for (String line : lines) {
            Matcher test = TABLE_TEST.matcher(line);
            if (test.matches()) {
                named.add(test.group(1));
            }
        }
        Set<String> there = new TreeSet<>();
        File[] files = new File("src/test/java").listFiles();
        for (File file : files == null ? new File[0] : files) {
            if (file.getName().endsWith("Test.java")) {
                there.add(file.getName().replace(".java", ""));
            }
        }
        CHECK.due("README.md names each of " + there + ": this", named.equals(there), true);
    }
}

import java.io.IOException;
import java.nio.file.Files;
import java.nio.file.Path;

/** Counts the answers that are not as due, by the document's sentences, and ends a test by them. */
final class Check {
    private static final Path DOCUMENT = Path.of("../shared/DOC.md");

    private final String document = read();
    private String sentence = "";
    private int sentences;
    private int lookedBefore;
    private int looked;
    private int wrong;

    private static String read() {
        try {
            return Files.isReadable(DOCUMENT) ? Files.readString(DOCUMENT) : "";
        } catch (IOException e) {
            return "";
        }
    }

    /** From here on answers are due by these words of the document, which a promise of it needs. */
    void sentence(String promise, String words) {
        closeSentence();
        sentence = promise + ", \"" + words + "\": ";
        sentences++;
        lookedBefore = looked;
        // Where the document can't be read its words can't be compared, and the answers alone count.
        if (!document.isEmpty() && !document.contains(words)) {
            wrong++;
            System.out.println(sentence + "the document doesn't say so");
        }
    }

    private void closeSentence() {
        if (sentences > 0 && looked == lookedBefore) {
            wrong++;
            System.out.println(sentence + "no answer was looked at");
        }
    }

    void due(String call, long got, long want) {
        looked++;
        if (got != want) {
            wrong++;
            System.out.println(sentence + call + " answered " + got + ", due is " + want);
        }
    }

    void due(String call, boolean got, boolean want) {
        due(call, got ? 1L : 0L, want ? 1L : 0L);
    }

    /** A call of cell with these six. */
    void dueCell(CellBench bench, int want, int... s) {
        due("cell" + java.util.Arrays.toString(s), bench.cell(s[0], s[1], s[2], s[3], s[4], s[5]), want);
    }

    /** The reduced six of a cell, and behind them symmetry, determinant and steps, as far as told. */
    void dueReduced(CellBench bench, int cell, long... want) {
        for (int what = 0; what < want.length; what++) {
            due("reduced(" + cell + ", " + what + ")", bench.reduced(cell, what), want[what]);
        }
    }

    /** A multiple's six, and behind them how many edges come to it. */
    void dueMultiple(CellBench bench, int cell, int n, int k, long... want) {
        for (int what = 0; what < want.length; what++) {
            due("multiple(" + cell + ", " + n + ", " + k + ", " + what + ")",
                    bench.multiple(cell, n, k, what), want[what]);
        }
    }

    void end() {
        closeSentence();
        System.out.println(sentences + " sentences, " + looked + " answers looked at, " + wrong + " not as due");
        if (wrong != 0 || looked == 0) {
            System.exit(1);
        }
    }
}

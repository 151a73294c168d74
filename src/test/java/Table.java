import java.io.IOException;
import java.io.UncheckedIOException;
import java.nio.file.Files;
import java.nio.file.Path;

/** Tables of calls, each on a new object, under the words of the document that it looks at; "-> n": n is due. */
final class Table {
    private static final String DOC = flat(doc());
    private static int looked, wrong;

    private static String doc() {
        try {
            return Files.readString(Path.of("../shared/DOC.md"));
        } catch (IOException e) {
            throw new UncheckedIOException(e);
        }
    }

    private static String flat(String text) {
        return text.replaceAll("\\s+", " ").replace("`", "");
    }

    /** The words must stand in the document, so that none is looked at that it does not say. */
    static void stands(String words) {
        if (!DOC.contains(flat(words))) {
            fault("the document does not say: " + words);
        }
    }

    static void edge(String words, String rows) {
        stands(words);
        Script script = new Script();
        for (String line : rows.split("\n")) {
            if (!line.isBlank()) {
                row(words, script, line.strip());
            }
        }
    }

    private static void row(String words, Script script, String line) {
        int arrow = line.lastIndexOf(" -> ");
        if (arrow < 0) {
            script.call(line);
            return;
        }
        String call = line.substring(0, arrow);
        due("\"" + words + "\": " + call, script.call(call), Script.number(line.substring(arrow + 4).strip()));
    }

    static void due(String call, long got, long want) {
        looked++;
        if (got != want) {
            fault(call + " answered " + got + ", due is " + want);
        }
    }

    static void fault(String what) {
        wrong++;
        System.out.println(what);
    }

    static void end() {
        System.out.println(looked + " answers looked at, " + wrong + " wrong");
        if (wrong != 0) {
            System.exit(1);
        }
    }
}

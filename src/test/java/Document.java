import java.io.IOException;
import java.nio.file.Files;
import java.nio.file.Path;
import java.util.Map;
import java.util.TreeMap;

/** The document beside this checkout, for the tests that look whether words do stand there. */
final class Document {
    private static final Path FILE = Path.of("../shared/DOC.md");

    private Document() {
    }

    /** A checkout may stand alone; what needs the document is then left out, and says so. */
    static boolean isThere(String test) {
        if (!Files.exists(FILE)) {
            System.out.println(test + " left out: no " + FILE);
        }
        return Files.exists(FILE);
    }

    /** The words under each heading, in one line. */
    static Map<String, String> sections() throws IOException {
        Map<String, String> all = new TreeMap<>();
        for (String part : Files.readString(FILE).split("(?m)^## ")) {
            int end = part.indexOf('\n');
            all.put(part.substring(0, end), oneLine(part.substring(end)));
        }
        return all;
    }

    static String oneLine(String words) {
        return words.replaceAll("\\s+", " ").trim();
    }
}

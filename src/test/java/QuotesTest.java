import java.io.IOException;
import java.nio.file.Files;
import java.nio.file.Path;
import java.util.Map;
import java.util.Set;
import java.util.TreeSet;
import java.util.regex.Matcher;
import java.util.regex.Pattern;
import java.util.stream.Stream;

/** The sentences that the tests name do stand in the document, and no heading is without one. */
public final class QuotesTest {
    /** What the promises rest on, beside the face, which FaceTest looks at. */
    private static final Set<String> REST = Set.of("What it is", "Terms");
    private static final Path TESTS = Path.of("src/test/java");
    private static final Pattern NAMED =
            Pattern.compile("Due\\.sentence\\(((?:[\\s,+]*\"[^\"]*\")+)\\);");
    private static final Pattern TEXT = Pattern.compile("\"([^\"]*)\"");

    public static void main(String[] args) throws IOException {
        if (!Document.isThere("QuotesTest")) {
            return;
        }
        Map<String, String> sections = Document.sections();
        Set<String> named = new TreeSet<>();
        try (Stream<Path> files = Files.list(TESTS)) {
            for (Path file : files.filter(f -> f.toString().endsWith("Test.java")).toList()) {
                look(file, sections, named);
            }
        }
        for (String heading : sections.keySet()) {
            boolean due = heading.startsWith("Promise ") || REST.contains(heading);
            Due.due("a test names '" + heading + "'", named.contains(heading) || !due, true);
        }
        Due.end();
    }

    private static void look(Path file, Map<String, String> sections, Set<String> named)
            throws IOException {
        Matcher calls = NAMED.matcher(Files.readString(file));
        while (calls.find()) {
            Matcher texts = TEXT.matcher(calls.group(1));
            texts.find();
            String heading = texts.group(1);
            StringBuilder words = new StringBuilder();
            while (texts.find()) {
                words.append(texts.group(1));
            }
            named.add(heading);
            boolean stands = sections.getOrDefault(heading, "").contains(words);
            Due.due(file.getFileName() + ": '" + words + "' under " + heading, stands, true);
        }
    }
}

import java.io.IOException;
import java.nio.file.Files;
import java.nio.file.Path;
import java.util.Map;
import java.util.Set;
import java.util.TreeMap;
import java.util.TreeSet;
import java.util.regex.Matcher;
import java.util.regex.Pattern;
import java.util.stream.Stream;

/** The sentences that the tests name do stand in the document, and no heading is without one. */
public final class QuotesTest {
    private static final Path DOCUMENT = Path.of("../shared/DOC.md");
    private static final Path TESTS = Path.of("src/test/java");
    private static final Pattern NAMED =
            Pattern.compile("Due\\.sentence\\(((?:[\\s,+]*\"[^\"]*\")+)\\);");
    private static final Pattern TEXT = Pattern.compile("\"([^\"]*)\"");

    public static void main(String[] args) throws IOException {
        if (!Files.exists(DOCUMENT)) {
            System.out.println("QuotesTest left out: no " + DOCUMENT);
            return;
        }
        Map<String, String> sections = sections();
        Set<String> named = new TreeSet<>();
        try (Stream<Path> files = Files.list(TESTS)) {
            for (Path file : files.filter(f -> f.toString().endsWith("Test.java")).toList()) {
                look(file, sections, named);
            }
        }
        for (String heading : sections.keySet()) {
            boolean due = heading.startsWith("Promise ") || heading.equals("Terms");
            Due.due("a test names '" + heading + "'", named.contains(heading) || !due, true);
        }
        Due.end();
    }

    /** The words under each heading, in one line. */
    private static Map<String, String> sections() throws IOException {
        Map<String, String> all = new TreeMap<>();
        for (String part : Files.readString(DOCUMENT).split("(?m)^## ")) {
            int end = part.indexOf('\n');
            all.put(part.substring(0, end), part.substring(end).replaceAll("\\s+", " "));
        }
        return all;
    }

    private static void look(Path file, Map<String, String> sections, Set<String> named)
            throws IOException {
        Matcher calls = NAMED.matcher(Files.readString(file));
        while (calls.find()) {
            Matcher texts = TEXT.matcher(calls.group(1));
            texts.find();
            String heading = texts.group(1);
            StringBuilder words = new StringBuilder();
            while (texts.find()) {
                words.append(texts.group(1));
            }
            named.add(heading);
            boolean stands = sections.getOrDefault(heading, "").contains(words);
            Due.due(file.getFileName() + ": '" + words + "' under " + heading, stands, true);
        }
    }
}

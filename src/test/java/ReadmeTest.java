import java.io.IOException;
import java.lang.reflect.Method;
import java.lang.reflect.Modifier;
import java.nio.file.Files;
import java.nio.file.Path;
import java.util.List;
import java.util.Map;
import java.util.Set;
import java.util.TreeSet;
import java.util.regex.Matcher;
import java.util.regex.Pattern;
import java.util.stream.Stream;

/**
 * What README.md says is so: its runs of calls answer what stands behind them, its table tells all
 * the answers below 0 that the runs show and no others, and what it quotes stands in the document.
 */
public final class ReadmeTest {
    private static final Pattern BLOCK = Pattern.compile("(?ms)^```java\n(.*?)^```$");
    private static final String NEW_OBJECT = "TwoSlots x = new TwoSlots();";
    private static final Pattern CALL = Pattern.compile("x\\.(\\w+)\\(([-\\d, ]*)\\);\\s*");
    private static final Pattern ANSWER = Pattern.compile("(-?\\d+|[A-Z_]+|true|false)(: .+)?");
    private static final Pattern TOLD = Pattern.compile("(?m)^\\| `(\\w+)\\([^|]*\\|[^|]*\\|(.*)$");
    private static final Pattern NUMBERED = Pattern.compile("`([A-Z_]+)` \\((-?\\d+)\\)");
    private static final Pattern QUOTE = Pattern.compile("(?m)^### (.+)$|^((?:> .*\n)+)");
    private static final Set<String> STATES =
            Set.of("IDLE", "FETCHING", "INSTALLING", "READY", "TRYING");

    /** As "feed REFUSED": the answers by name that the runs have shown. */
    private static final Set<String> shown = new TreeSet<>();
    private static final Set<String> called = new TreeSet<>();

    public static void main(String[] args) throws IOException, ReflectiveOperationException {
        String text = Files.readString(Path.of("README.md"));
        Matcher blocks = BLOCK.matcher(text);
        while (blocks.find()) {
            runs(blocks.group(1));
        }
        for (Method method : TwoSlots.class.getDeclaredMethods()) {
            boolean open = Modifier.isPublic(method.getModifiers());
            Due.due("README.md calls " + method.getName(),
                    !open || called.contains(method.getName()), true);
        }
        Due.due("the table and the runs tell the same: " + told(text) + " and " + shown,
                told(text).equals(shown), true);
        numbers(text);
        quotes(text);
        Due.end();
    }

    private static void runs(String block) throws ReflectiveOperationException {
        Run x = null;
        for (String line : block.lines().toList()) {
            if (line.equals(NEW_OBJECT)) {
                x = new Run();
            } else if (x == null) {
                Due.wrong("README.md: a run without a new object: " + line);
                return;
            } else {
                line(x, line);
            }
        }
    }

    private static void line(Run x, String line) throws ReflectiveOperationException {
        int comment = line.indexOf("//");
        String code = comment < 0 ? line : line.substring(0, comment);
        List<Call> calls = calls(code);
        for (int i = 0; i < calls.size(); i++) {
            Call call = calls.get(i);
            called.add(call.name());
            if (comment >= 0 && i == calls.size() - 1) {
                answers(x, call, line.substring(comment + 2).trim());
            } else {
                Due.due("README.md: " + line + ": " + call + " is done", x.call(call) >= 0, true);
            }
        }
    }

    private static List<Call> calls(String code) {
        Due.due("README.md: calls alone in: " + code, CALL.matcher(code).replaceAll("").isEmpty(),
                true);
        return CALL.matcher(code).results().map(call -> new Call(call.group(1),
                Stream.of(call.group(2).split(",")).map(String::trim).filter(n -> !n.isEmpty())
                        .mapToInt(Integer::parseInt).toArray())).toList();
    }

    private static void answers(Run x, Call call, String comment)
            throws ReflectiveOperationException {
        Matcher answer = ANSWER.matcher(comment);
        if (!answer.matches()) {
            Due.wrong("README.md: no answer in: " + call + " // " + comment);
            return;
        }
        String word = answer.group(1);
        x.due(number(word), call.name(), call.numbers());
        boolean named = Character.isUpperCase(word.charAt(0));
        if (named && !STATES.contains(word)) {
            shown.add(call.name() + " " + word);
        }
    }

    private static int number(String word) throws ReflectiveOperationException {
        if (word.equals("true") || word.equals("false")) {
            return word.equals("true") ? 1 : 0;
        }
        if (Character.isUpperCase(word.charAt(0))) {
            return TwoSlots.class.getField(word).getInt(null);
        }
        return Integer.parseInt(word);
    }

    /** The answers below 0 in the table's last column, by their colons. */
    private static Set<String> told(String text) {
        Set<String> all = new TreeSet<>();
        Matcher rows = TOLD.matcher(text);
        while (rows.find()) {
            Matcher words = Pattern.compile("([A-Z_]+):").matcher(rows.group(2));
            while (words.find()) {
                all.add(rows.group(1) + " " + words.group(1));
            }
        }
        return all;
    }

    private static void numbers(String text) throws ReflectiveOperationException {
        Matcher named = NUMBERED.matcher(text);
        int many = 0;
        while (named.find()) {
            many++;
            Due.due("README.md: " + named.group(1), Integer.parseInt(named.group(2)),
                    number(named.group(1)));
        }
        Due.due("README.md: numbers of the answers below 0", many, 5);
    }

    /** A quote stands in the document under the same heading. */
    private static void quotes(String text) throws IOException {
        if (!Document.isThere("ReadmeTest's quotes")) {
            return;
        }
        Map<String, String> sections = Document.sections();
        String heading = "";
        int many = 0;
        Matcher lines = QUOTE.matcher(text);
        while (lines.find()) {
            if (lines.group(1) != null) {
                heading = lines.group(1);
                continue;
            }
            many++;
            String words = Document.oneLine(lines.group(2).replaceAll("(?m)^> ", ""));
            boolean stands = sections.getOrDefault(heading, "").contains(words);
            Due.due("README.md: '" + words + "' under " + heading, stands, true);
        }
        Due.due("README.md quotes", many > 0, true);
    }
}

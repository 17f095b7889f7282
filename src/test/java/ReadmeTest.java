import java.io.IOException;
import java.nio.file.Files;
import java.nio.file.Path;
import java.util.HashMap;
import java.util.List;
import java.util.Map;
import java.util.regex.Matcher;
import java.util.regex.Pattern;
import java.util.stream.Stream;

/** README.md shows an example that answers as it says, and leaves out no call and no test. */
public final class ReadmeTest {
    private static final Path PLACE = Path.of("README.md");
    private static final Path DOCUMENT = Path.of("../shared/DOC.md");
    private static final Path TESTS = Path.of("src/test/java");
    private static final Pattern MADE = Pattern.compile("ScopedMemory memory = new ScopedMemory\\((.*)\\); +// .*");
    private static final Pattern CALLED =
        Pattern.compile("(?:int (\\w+) = )?memory\\.(\\w+)\\((.*)\\); +// (\\w+): .*");

    private final Checks checks = new Checks();
    private final String text;
    private final Map<String, Integer> names = new HashMap<>(Map.of("false", 0, "true", 1));

    private ReadmeTest(String text) {
        this.text = text;
    }

    public static void main(String[] args) throws IOException {
        ReadmeTest test = new ReadmeTest(Files.readString(PLACE));
        test.checks.part(PLACE.toString());
        test.checkExample();
        test.checkCalls();
        test.checkTests();
        test.checks.end();
    }

    private static List<String> javaLines(String text) {
        int start = text.indexOf("```java\n") + "```java\n".length();
        return text.substring(start, text.indexOf("```", start)).lines().toList();
    }

    private void checkExample() {
        List<String> lines = javaLines(text);
        ScopedMemory memory = call("new", matched(MADE, lines.get(0)).group(1)).make();
        for (String line : lines.subList(1, lines.size())) {
            Matcher parts = matched(CALLED, line);
            int got = call(parts.group(2), parts.group(3)).on(memory);
            checks.due(line, got, Call.number(parts.group(4)));
            if (parts.group(1) != null) {
                names.put(parts.group(1), got);
            }
        }
    }

    private static Matcher matched(Pattern pattern, String line) {
        Matcher matcher = pattern.matcher(line);
        if (!matcher.matches()) {
            throw new IllegalArgumentException("the example has a line that can't be read: " + line);
        }
        return matcher;
    }

    private Call call(String name, String arguments) {
        int[] numbers = Stream.of(arguments.split(", *"))
            .filter(word -> !word.isEmpty())
            .mapToInt(word -> names.containsKey(word) ? names.get(word) : Integer.parseInt(word))
            .toArray();
        return new Call(name, numbers);
    }

    /** Each constructor and method of the document's face, with its parameters, and each constant. */
    private void checkCalls() throws IOException {
        if (!Files.exists(DOCUMENT)) {
            System.out.println("there is no " + DOCUMENT + " to hold " + PLACE + " against");
            return;
        }
        for (String line : javaLines(Files.readString(DOCUMENT))) {
            Matcher method = Pattern.compile("public (?:int )?(\\w+)\\((.*)\\);").matcher(line.trim());
            if (method.matches()) {
                String call = method.group(1) + "(" + method.group(2).replaceAll("(int|boolean) ", "") + ")`";
                checks.holds("that it names `" + call, text.contains("| `" + call) || text.contains("`new " + call));
            }
            Matcher constant = Pattern.compile("public static final int (\\w+) = .*").matcher(line.trim());
            if (constant.matches()) {
                checks.holds("that it names " + line.trim(), text.contains(constant.group(1)));
            }
        }
    }

    private void checkTests() throws IOException {
        try (Stream<Path> files = Files.list(TESTS)) {
            for (Path file : files.filter(path -> path.toString().endsWith("Test.java")).toList()) {
                String name = file.getFileName().toString().replace(".java", "");
                checks.holds("that it names " + name, text.contains("- `" + name + "`: "));
            }
        }
    }
}

import java.io.IOException;
import java.nio.file.Files;
import java.nio.file.Path;
import java.util.ArrayList;
import java.util.List;
import java.util.Map;
import java.util.TreeMap;

/** The sentences of the document, to see that each has a case, and that each case tells one of them. */
final class Document {
    private static final Path PLACE = Path.of("../shared/DOC.md");

    private Document() {
    }

    static void compare(Checks checks, Map<String, List<String>> told) throws IOException {
        checks.part("the document");
        if (!Files.exists(PLACE)) {
            System.out.println("there is no " + PLACE + " to hold the cases against");
            return;
        }
        Map<String, String> sections = sections(Files.readString(PLACE));
        for (Map.Entry<String, List<String>> entry : told.entrySet()) {
            String words = sections.getOrDefault(entry.getKey(), "");
            for (String part : entry.getValue()) {
                checks.holds("that " + entry.getKey() + " says \"" + part + "\"", words.contains(part));
            }
        }
        for (Map.Entry<String, String> entry : sections.entrySet()) {
            List<String> parts = told.getOrDefault(entry.getKey(), List.of());
            for (String sentence : sentences(entry.getValue())) {
                checks.holds("that a case of " + entry.getKey() + " tells \"" + sentence + "\"",
                    parts.stream().anyMatch(sentence::contains));
            }
        }
    }

    /** What it is, the terms and the promises, each as one line, by their headings. */
    private static Map<String, String> sections(String text) {
        Map<String, String> sections = new TreeMap<>();
        for (String section : text.split("\n## ")) {
            int end = section.indexOf('\n');
            String heading = section.substring(0, Math.max(0, end));
            if (heading.equals("What it is") || heading.equals("Terms") || heading.startsWith("Promise ")) {
                sections.put(heading.replaceAll(":.*", ""), section.substring(end).replaceAll("\\s+", " ").trim());
            }
        }
        return sections;
    }

    private static List<String> sentences(String section) {
        List<String> sentences = new ArrayList<>();
        // A full stop behind a word or a bracket; the two dots of a range have a space in front of them.
        for (String sentence : section.split("(?<=[A-Za-z0-9)])\\.( |$)")) {
            if (sentence.contains(" ")) {
                sentences.add(sentence);
            }
        }
        return sentences;
    }
}

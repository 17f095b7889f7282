import java.util.ArrayList;
import java.util.List;
import java.util.TreeMap;

/**
 * Runs the cases of the document's sentences. A case is a text of calls, one to a line or parted by
 * semicolons: "enter 0 2 = 1" is a call with the answer that is due, a call without "=" has to answer
 * 0 or more, and what stands behind "#" is a remark. The first call is "new" with the two sizes.
 */
final class Story {
    private final Checks checks;
    private final TreeMap<String, List<String>> told = new TreeMap<>();
    private String section = "";

    Story(Checks checks) {
        this.checks = checks;
    }

    /** The heading of the document under which the sentences stand that follow. */
    void section(String heading) {
        section = heading;
        told.computeIfAbsent(heading, name -> new ArrayList<>());
    }

    /** A case of a sentence, or of a part of it, in the document's own words. */
    void says(String sentence, String... rows) {
        told.get(section).add(sentence);
        checks.part(section + ": \"" + sentence + "\"");
        run(String.join("\n", rows));
    }

    /** The sentences that had a case, by their sections. */
    TreeMap<String, List<String>> told() {
        return told;
    }

    private void run(String text) {
        List<String> rows = rowsOf(text);
        Call maker = Call.read(rows.get(0));
        ScopedMemory memory = maker.make();
        List<Call> before = new ArrayList<>();
        for (String row : rows.subList(1, rows.size())) {
            String[] sides = row.split("=");
            Call call = Call.read(sides[0]);
            int got = call.on(memory);
            String asked = call + " after " + before;
            if (sides.length > 1) {
                checks.due(asked, got, Call.number(sides[1].trim()));
            } else {
                checks.holds(asked + " answered " + got + ": that it is done, and answers 0 or more,", got >= 0);
            }
            if (got < 0 || call.onlyAsks()) {
                checks.same("what has changed by " + asked, new Twins(maker, before, call).difference(), "");
            }
            before.add(call);
        }
        checks.holds("that the case has at most 512 calls", before.size() <= Twins.MOST_CALLS);
    }

    private static List<String> rowsOf(String text) {
        List<String> rows = new ArrayList<>();
        for (String line : text.split("\n")) {
            for (String row : line.replaceAll("#.*", "").split(";")) {
                if (!row.isBlank()) {
                    rows.add(row);
                }
            }
        }
        return rows;
    }
}

import java.util.Arrays;
import java.util.List;

/** One call of the document's face with its arguments, written as in "enter 0 2". */
final class Call {
    /** The calls that only ask: whatever they answer, they are due to change nothing. */
    private static final List<String> QUESTIONS =
        List.of("get", "portal", "areaOf", "room", "parent", "entries", "view", "count");

    private final String name;
    private final int[] arguments;

    Call(String name, int... arguments) {
        this.name = name;
        this.arguments = arguments;
    }

    static Call read(String text) {
        String[] words = text.trim().split(" +");
        int[] arguments = new int[words.length - 1];
        for (int i = 0; i < arguments.length; i++) {
            arguments[i] = number(words[i + 1]);
        }
        return new Call(words[0], arguments);
    }

    /** The document's own numbers, not the program's constants: these may be wrong. */
    static int number(String word) {
        return switch (word) {
            case "OK" -> 0;
            case "REFUSED" -> -1;
            case "FULL" -> -2;
            case "CYCLE" -> -3;
            case "UNSEEN" -> -4;
            case "ILLEGAL" -> -5;
            case "NULL" -> -6;
            case "null" -> -1;
            case "plain" -> 0;
            case "heapless" -> 1;
            case "MIN" -> Integer.MIN_VALUE;
            case "MAX" -> Integer.MAX_VALUE;
            default -> Integer.parseInt(word);
        };
    }

    boolean onlyAsks() {
        return QUESTIONS.contains(name);
    }

    /** The object that the first call of a case makes. */
    ScopedMemory make() {
        if (!name.equals("new")) {
            throw new IllegalArgumentException("a case begins with new, not with " + this);
        }
        return new ScopedMemory(arguments[0], arguments[1]);
    }

    int on(ScopedMemory m) {
        int[] a = arguments;
        return switch (name) {
            case "scope" -> m.scope(a[0]);
            case "begin" -> m.begin(a[0], a[1] == 1);
            case "enter" -> m.enter(a[0], a[1]);
            case "turn" -> m.turn(a[0], a[1]);
            case "leave" -> m.leave(a[0]);
            case "make" -> m.make(a[0], a[1]);
            case "put" -> m.put(a[0], a[1], a[2], a[3]);
            case "get" -> m.get(a[0], a[1], a[2]);
            case "hang" -> m.hang(a[0], a[1], a[2]);
            case "portal" -> m.portal(a[0], a[1]);
            case "assign" -> m.assign(a[0], a[1], a[2]);
            case "collect" -> m.collect();
            case "areaOf" -> m.areaOf(a[0]);
            case "room" -> m.room(a[0]);
            case "parent" -> m.parent(a[0]);
            case "entries" -> m.entries(a[0]);
            case "view" -> m.view(a[0], a[1]);
            case "count" -> m.count(a[0]);
            default -> throw new IllegalArgumentException("no call has the name " + name);
        };
    }

    @Override
    public String toString() {
        String list = Arrays.toString(arguments);
        return name + "(" + list.substring(1, list.length() - 1) + ")";
    }
}

import java.util.ArrayDeque;
import java.util.Arrays;
import java.util.Random;
import java.util.TreeMap;
import java.util.TreeSet;

/** Long runs of calls, the same each time, with the program's answers held against the model's. */
public final class ModelTest {
    private static final int RUNS = 6000;
    private static final int CALLS = 512;
    private static final int TOLD_CALLS = 12;
    private static final int[] WILD = {
        Integer.MIN_VALUE, Integer.MIN_VALUE + 2, -41, -7, -3, -2, -1, 0, 1, 2, 3, 4, 5, 8, 9, 10, 11, 12, 13, 39, 40,
        41, 60, 61, 256, 65536, Integer.MAX_VALUE - 1, Integer.MAX_VALUE,
    };
    private static final String[] NAMES = {
        "scope", "begin", "enter", "turn", "leave", "make", "put", "get", "hang", "portal", "assign", "collect",
        "areaOf", "room", "parent", "entries", "view", "count",
    };
    /** How often each call is drawn, by the order of NAMES; one row is used for a whole run. */
    private static final int[][] WEIGHTS = {
        {4, 3, 10, 6, 8, 12, 16, 10, 5, 4, 4, 1, 2, 2, 2, 2, 3, 4},
        {2, 3, 20, 12, 10, 4, 6, 4, 3, 3, 1, 1, 1, 1, 4, 4, 6, 2},
        {1, 2, 3, 3, 2, 20, 30, 14, 3, 2, 8, 2, 2, 2, 1, 1, 1, 6},
        {3, 2, 16, 10, 3, 10, 14, 10, 6, 6, 3, 1, 1, 1, 2, 2, 4, 3},
    };
    /** Every kind of answer that the document names for a call; "+" is an answer of 0 or more. */
    private static final String[] NAMED = {
        "scope + -1 -2", "begin + -1", "enter + -1 -2 -3", "turn + -1 -2 -4 -5", "leave + -1", "make + -1 -2",
        "put + -1 -4 -5", "get + -1 -4 -6", "hang + -1 -4 -5", "portal + -1 -4 -6", "assign + -1 -4 -5", "collect +",
        "areaOf + -1", "room + -1", "parent + -1 -6", "entries + -1", "view + -1", "count + -1 -6",
    };

    private static final Checks CHECKS = new Checks();
    private static final TreeMap<String, TreeSet<String>> MET = new TreeMap<>();

    private final Random random;
    private final ScopedMemory memory;
    private final Model model;
    private final int wildOneIn;
    private final ArrayDeque<String> lastCalls = new ArrayDeque<>();

    private ModelTest(int seed) {
        random = new Random(seed);
        int heap = random.nextInt(70) - 4;
        int immortal = random.nextInt(70) - 4;
        memory = new ScopedMemory(heap, immortal);
        model = new Model(heap, immortal);
        wildOneIn = seed % 3 == 0 ? 8 : 60;
    }

    public static void main(String[] args) {
        for (int seed = 1; seed <= RUNS && !CHECKS.anyWrong(); seed++) {
            CHECKS.part("run " + seed);
            new ModelTest(seed).run(WEIGHTS[seed % WEIGHTS.length]);
        }
        if (!CHECKS.anyWrong()) {
            checkKindsOfAnswers();
        }
        CHECKS.end();
    }

    /** Runs that never met an answer would not have tested it. */
    private static void checkKindsOfAnswers() {
        CHECKS.part("all runs");
        for (String named : NAMED) {
            String[] words = named.split(" ");
            TreeSet<String> kinds = new TreeSet<>(Arrays.asList(words).subList(1, words.length));
            CHECKS.same("kinds of answers of " + words[0], String.valueOf(MET.get(words[0])), kinds.toString());
        }
    }

    private void run(int[] weights) {
        for (int call = 0; call < CALLS && !CHECKS.anyWrong(); call++) {
            one(draw(weights));
        }
        CHECKS.holds("that nothing dangles in the end", !model.dangles());
        if (CHECKS.anyWrong()) {
            System.out.println("the last calls: " + lastCalls);
        }
    }

    private int draw(int[] weights) {
        int left = random.nextInt(Arrays.stream(weights).sum());
        int kind = 0;
        while (left >= weights[kind]) {
            left -= weights[kind];
            kind++;
        }
        return kind;
    }

    private void one(int kind) {
        int t = number(4);
        switch (kind) {
            case 0 -> { int a = 1 + number(40); told(kind, memory.scope(a), model.scope(a), a); }
            case 1 -> {
                boolean heapless = random.nextInt(3) == 0;
                told(kind, memory.begin(t, heapless), model.begin(t, heapless), t, heapless ? 1 : 0);
            }
            case 2 -> { int a = area(); told(kind, memory.enter(t, a), model.enter(t, a), t, a); }
            case 3 -> { int a = area(); told(kind, memory.turn(t, a), model.turn(t, a), t, a); }
            case 4 -> told(kind, memory.leave(t), model.leave(t), t);
            case 5 -> { int a = number(5); told(kind, memory.make(t, a), model.make(t, a), t, a); }
            case 6 -> {
                int a = object();
                int b = number(4);
                int c = object();
                told(kind, memory.put(t, a, b, c), model.put(t, a, b, c), t, a, b, c);
            }
            case 7 -> {
                int a = object();
                int b = number(4);
                told(kind, memory.get(t, a, b), model.get(t, a, b), t, a, b);
            }
            case 8 -> {
                int a = area();
                int b = object();
                told(kind, memory.hang(t, a, b), model.hang(t, a, b), t, a, b);
            }
            case 9 -> { int a = area(); told(kind, memory.portal(t, a), model.portal(t, a), t, a); }
            case 10 -> {
                int a = number(4);
                int b = object();
                told(kind, memory.assign(t, a, b), model.assign(t, a, b), t, a, b);
            }
            case 11 -> told(kind, memory.collect(), model.collect());
            case 12 -> { int a = object(); told(kind, memory.areaOf(a), model.areaOf(a), a); }
            case 13 -> { int a = area(); told(kind, memory.room(a), model.room(a), a); }
            case 14 -> { int a = area(); told(kind, memory.parent(a), model.parent(a), a); }
            case 15 -> { int a = area(); told(kind, memory.entries(a), model.entries(a), a); }
            case 16 -> { int a = number(10); told(kind, memory.view(t, a), model.view(t, a), t, a); }
            default -> { int a = number(8); told(kind, memory.count(a), model.count(a), a); }
        }
    }

    private void told(int kind, int got, int want, int... arguments) {
        String call = NAMES[kind] + Arrays.toString(arguments);
        lastCalls.add(call + " = " + want);
        if (lastCalls.size() > TOLD_CALLS) {
            lastCalls.remove();
        }
        CHECKS.due(call, got, want);
        MET.computeIfAbsent(NAMES[kind], name -> new TreeSet<>()).add(want >= 0 ? "+" : String.valueOf(want));
    }

    /** Mostly below the bound, at times any number at all. */
    private int number(int bound) {
        if (random.nextInt(wildOneIn) == 0) {
            return random.nextBoolean() ? WILD[random.nextInt(WILD.length)] : random.nextInt();
        }
        return random.nextInt(bound);
    }

    private int area() {
        return number(Math.min(10, model.count(1) + 1));
    }

    /** Mostly a number near those that are in use, at times null. */
    private int object() {
        return random.nextInt(12) == 0 ? -1 : number(Math.min(40, model.count(0) + 2));
    }
}

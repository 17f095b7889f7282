import java.util.function.IntFunction;
import java.util.stream.Collectors;
import java.util.stream.IntStream;

/** The document's section of terms. */
final class TermsCases {
    /**
     * Threads 0 in HEAP, 2, 3 and 1 in HEAP, 2, 4, both plain; OBJECTS with two fields: 0 in the HEAP,
     * 1 in IMMORTAL, 2 in scope 2, 3 in 3, 4 in 4; scope 5 has no ENTRIES.
     */
    static final String FAMILY = """
        new 30 30; scope 20; scope 20; scope 20; scope 20; begin 0 plain; begin 1 plain
        make 0 2 = 0; turn 0 1; make 0 2 = 1; leave 0
        enter 0 2; make 0 2 = 2; enter 0 3; make 0 2 = 3; enter 1 2; enter 1 4; make 1 2 = 4
        """;
    /** FAMILY, with the heapless thread 2 in IMMORTAL, 2. */
    static final String FAMILY_AND_HEAPLESS = FAMILY + "begin 2 heapless; enter 2 2 = 3;";
    /** Scopes 2 to 9, each in the one before, all entered by thread 0. */
    static final String LADDER = """
        new 30 30; begin 0 plain
        scope 10; scope 10; scope 10; scope 10; scope 10; scope 10; scope 10; scope 10
        enter 0 2; enter 0 3; enter 0 4; enter 0 5; enter 0 6; enter 0 7; enter 0 8; enter 0 9
        """;

    /** Out of range everywhere; some come back into it where a shift, a mask, a cast or a sum wraps around. */
    private static final String[] FAR_OUT = {
        "MIN", "-2147483647", "-65536", "-256", "-64", "64", "128", "256", "65536", "65538", "2147483646", "MAX",
    };

    private TermsCases() {
    }

    static void tell(Story story) {
        story.section("What it is");
        whatItIs(story);
        longRuns(story);
        story.section("Terms");
        areas(story);
        objects(story);
        threads(story);
        views(story);
        entriesAndParents(story);
        emptied(story);
        liesIn(story);
        sees(story);
        mayPointTo(story);
        statics(story);
        kept(story);
        numbersFirst(story);
        wrongNumbers(story);
        refusedChangesNothing(story);
        nulls(story);
    }

    /** The rows for the numbers from the first to the last. */
    static String rows(int first, int last, IntFunction<String> row) {
        return IntStream.rangeClosed(first, last).mapToObj(row).collect(Collectors.joining("\n", "", "\n"));
    }

    private static void whatItIs(Story story) {
        story.says("a collected heap, an immortal area, and scopes that threads enter and leave"
            + " and that are emptied when the last one is gone", """
            new 9 9; scope 9; begin 0 plain; begin 1 plain; make 0 0 = 0; turn 0 1; make 0 0 = 1; leave 0
            enter 0 2; make 0 0 = 2; enter 1 2; collect = 1; areaOf 0 = REFUSED; areaOf 1 = 1; areaOf 2 = 2
            leave 0; areaOf 2 = 2; leave 1; areaOf 2 = REFUSED; areaOf 1 = 1
            """);
        story.says("stores that could leave a reference dangling are refused", FAMILY, """
            put 0 0 0 3 = ILLEGAL; put 0 1 0 3 = ILLEGAL; put 0 2 0 3 = ILLEGAL; hang 0 2 3 = ILLEGAL
            assign 0 0 3 = ILLEGAL
            put 0 3 0 0 = OK; put 0 3 0 1 = OK; put 0 3 0 2 = OK; hang 0 3 3 = OK; assign 0 0 0 = OK
            """);
    }

    /** Runs of 512 calls, whose last ones are answered as the first ones were. */
    private static void longRuns(Story story) {
        String most = "An object is used for at most 512 calls after it has been made";
        story.says(most, "new 9 9", "begin 0 plain = OK; leave 0 = 0\n".repeat(254), """
            begin 0 heapless = OK; view 0 0 = 1; count 2 = 1; leave 0 = 0
            """);
        story.says(most, "new 9 9; begin 0 plain = OK; scope 5 = 2",
            "enter 0 2 = 1; make 0 4 = 0; leave 0 = 1\n".repeat(170));
        story.says(most, "new 9 9; begin 0 plain = OK", "make 0 4 = 0; collect = 1\n".repeat(255), "make 0 4 = 0");
        story.says(most, "new 9 9; begin 0 plain = OK; make 0 4 = 0",
            "put 0 0 3 0 = OK; put 0 0 3 null = OK\n".repeat(254), "put 0 0 3 0 = OK; get 0 0 3 = 0");
        story.says(most, "new 9 9; begin 0 plain = OK", "turn 0 1 = 2; leave 0 = 1\n".repeat(255), "turn 0 0 = 2");
        story.says(most, "new 9 9; begin 0 plain = OK", "scope 0 = REFUSED\n".repeat(510), "scope 40 = 2");
    }

    private static void areas(Story story) {
        story.says("AREAS: 0 the HEAP, 1 IMMORTAL, 2 .. 9 scopes, made one after another", """
            new 11 12; count 1 = 2
            room 0 = 11; room 1 = 12; room 2 = REFUSED; room 9 = REFUSED
            scope 3 = 2; count 1 = 3; room 2 = 3; room 3 = REFUSED
            scope 4 = 3; scope 5 = 4; scope 6 = 5; scope 7 = 6; scope 8 = 7; scope 9 = 8
            room 8 = 9; room 9 = REFUSED
            scope 10 = 9; count 1 = 10; room 9 = 10; room 10 = REFUSED; room -1 = REFUSED
            """);
        String each = "its OBJECTS take 1 and 1 for each of their fields (0 .. 4)";
        story.says(each, """
            new 60 20; begin 0 plain
            make 0 0; room 0 = 59; make 0 1; room 0 = 57; make 0 2; room 0 = 54; make 0 3; room 0 = 50
            make 0 4; room 0 = 45; make 0 5 = REFUSED; make 0 -1 = REFUSED; room 0 = 45
            """);
        story.says(each, """
            new 20 60; begin 0 heapless
            make 0 0; room 1 = 59; make 0 1; room 1 = 57; make 0 2; room 1 = 54; make 0 3; room 1 = 50
            make 0 4; room 1 = 45; make 0 5 = REFUSED; make 0 -1 = REFUSED; room 1 = 45
            """);
        story.says(each, """
            new 20 20; scope 40; begin 0 heapless; enter 0 2
            make 0 0; room 2 = 39; make 0 1; room 2 = 37; make 0 2; room 2 = 34; make 0 3; room 2 = 30
            make 0 4; room 2 = 25; make 0 5 = REFUSED; make 0 -1 = REFUSED; room 2 = 25
            """);
        String never = "together never more than the size";
        story.says(never, """
            new 4 4; begin 0 plain
            scope 1; enter 0 2; make 0 1 = FULL; make 0 0 = 0; room 2 = 0; make 0 0 = FULL
            scope 2; enter 0 3; make 0 2 = FULL; make 0 1 = 1; room 3 = 0; make 0 0 = FULL
            scope 3; enter 0 4; make 0 3 = FULL; make 0 2 = 2; room 4 = 0; make 0 0 = FULL
            scope 4; enter 0 5; make 0 4 = FULL; make 0 3 = 3; room 5 = 0; make 0 0 = FULL
            scope 5; enter 0 6; make 0 4 = 4; room 6 = 0; make 0 0 = FULL
            """);
        story.says(never, "new 60 4; begin 0 plain", rows(0, 11, i -> "make 0 4 = " + i), """
            room 0 = 0; make 0 0 = FULL; make 0 4 = FULL
            """);
        story.says(never, "new 4 60; begin 0 heapless", rows(0, 11, i -> "make 0 4 = " + i), """
            room 1 = 0; make 0 0 = FULL; make 0 4 = FULL
            """);
        story.says(never, "new 4 4; scope 40; begin 0 plain; enter 0 2", rows(0, 7, i -> "make 0 4 = " + i), """
            room 2 = 0; make 0 0 = FULL; make 0 4 = FULL
            """);
        story.says(never, """
            new 7 4; begin 0 plain; make 0 2 = 0; room 0 = 4
            make 0 4 = FULL; make 0 3 = 1; room 0 = 0; make 0 0 = FULL  # one too many, and just as many
            """);
    }

    private static void objects(Story story) {
        String number = "An OBJECT has a number 0 .. 39, an area, and fields that hold an OBJECT or null"
            + " (null at first)";
        story.says(number, "new 60 60; begin 0 plain; areaOf 0 = REFUSED", rows(0, 38, i -> "make 0 0 = " + i), """
            areaOf 39 = REFUSED; make 0 0 = 39; areaOf 39 = 0; areaOf 0 = 0; areaOf 40 = REFUSED; areaOf -1 = REFUSED
            """);
        story.says(number, """
            new 9 9; scope 9; begin 0 plain
            make 0 4 = 0; get 0 0 0 = NULL; get 0 0 1 = NULL; get 0 0 2 = NULL; get 0 0 3 = NULL; areaOf 0 = 0
            turn 0 1; make 0 2 = 1; get 0 1 0 = NULL; get 0 1 1 = NULL; get 0 1 2 = REFUSED; areaOf 1 = 1
            enter 0 2; make 0 1 = 2; get 0 2 0 = NULL; get 0 2 1 = REFUSED; areaOf 2 = 2
            make 0 0 = 3; get 0 3 0 = REFUSED
            """);
        story.says(number, """
            new 10 4; begin 0 plain; make 0 4 = 0
            put 0 0 0 0; put 0 0 1 0; put 0 0 2 0; put 0 0 3 0
            collect = 1; make 0 4 = 0  # the number is used again, the fields are new
            get 0 0 0 = NULL; get 0 0 1 = NULL; get 0 0 2 = NULL; get 0 0 3 = NULL
            """);
        story.says(number, """
            new 10 4; scope 9; begin 0 plain; enter 0 2; make 0 2 = 0; put 0 0 1 0; leave 0
            make 0 4 = 0; get 0 0 1 = NULL; get 0 0 3 = NULL
            """);
        String least = "A new OBJECT gets the least number that no OBJECT has";
        story.says(least, """
            new 20 20; begin 0 plain; make 0 0 = 0; make 0 0 = 1; make 0 0 = 2; make 0 0 = 3; make 0 0 = 4
            assign 0 0 1; assign 0 1 3; collect = 3
            make 0 0 = 0; make 0 0 = 2; make 0 0 = 4; make 0 0 = 5
            """);
        story.says(least, """
            new 20 20; scope 9; scope 9; begin 0 plain; make 0 0 = 0
            enter 0 2; make 0 0 = 1; enter 0 3; make 0 0 = 2; turn 0 2; make 0 0 = 3; leave 0; make 0 0 = 4
            leave 0  # 2 and 4 are gone
            make 0 0 = 2; turn 0 1; make 0 0 = 4; make 0 0 = 5
            """);
        story.says(least, """
            new 20 20; begin 0 plain; make 0 0 = 0; make 0 5 = REFUSED; turn 0 1; make 0 0 = 1; collect = 1
            make 0 4 = 0  # the least one, though it was in another area, and no refused call has taken one
            areaOf 0 = 1
            """);
        story.says(least, "new 60 60; begin 0 plain", rows(0, 39, i -> "make 0 0 = " + i), """
            make 0 0 = FULL; assign 0 0 38; collect = 39; make 0 0 = 0
            """, rows(1, 37, i -> "make 0 0 = " + i), "make 0 0 = 39; make 0 0 = FULL");
    }

    private static void threads(Story story) {
        String four = "THREADS 0 .. 3 are each idle (at first) or begun, plain or heapless";
        story.says(four, """
            new 9 9; count 2 = 0; leave 0 = REFUSED; leave 1 = REFUSED; leave 2 = REFUSED; leave 3 = REFUSED
            begin 0 plain = OK; begin 1 heapless = OK; begin 2 heapless = OK; begin 3 plain = OK; count 2 = 4
            begin 4 plain = REFUSED; begin -1 plain = REFUSED; begin 4 heapless = REFUSED
            make 0 0; make 1 0; make 2 0; make 3 0
            areaOf 0 = 0; areaOf 1 = 1; areaOf 2 = 1; areaOf 3 = 0
            """);
        story.says("A begun thread has a ROW of steps, one at first", """
            new 9 9; begin 0 plain; view 0 0 = 0; view 0 1 = REFUSED; leave 0 = 0; leave 0 = REFUSED
            begin 0 heapless; view 0 0 = 1; view 0 1 = REFUSED; turn 0 1 = 2; leave 0 = 1; leave 0 = 0
            """);
        story.says("each step has an area and an under-step, which is an earlier step of the ROW, or none", """
            new 9 9; scope 5; scope 5; begin 0 plain
            enter 0 2; turn 0 1; enter 0 3  # 3 on IMMORTAL, which is on nothing
            view 0 0 = 3; view 0 1 = 1; view 0 2 = REFUSED; leave 0
            view 0 0 = 1; view 0 1 = REFUSED; leave 0  # 2 on the first step
            view 0 0 = 2; view 0 1 = 0; view 0 2 = REFUSED
            """);
        String first = "The first step's area is the HEAP (IMMORTAL if heapless), without an under-step";
        story.says(first, "new 9 9; begin 3 plain; view 3 0 = 0; view 3 1 = REFUSED; make 3 0 = 0; areaOf 0 = 0");
        story.says(first, "new 9 9; begin 3 heapless; view 3 0 = 1; view 3 1 = REFUSED; make 3 0 = 0; areaOf 0 = 1");
        story.says("The last step is its TOP, the TOP's area the CURRENT area", """
            new 9 9; scope 9; scope 9; begin 0 plain; make 0 0 = 0; areaOf 0 = 0
            enter 0 2; make 0 0 = 1; areaOf 1 = 2; enter 0 3; make 0 0 = 2; areaOf 2 = 3
            turn 0 1; make 0 0 = 3; areaOf 3 = 1; leave 0; make 0 0 = 4; areaOf 4 = 3
            turn 0 2; make 0 0 = 5; areaOf 5 = 2; turn 0 0; make 0 0 = 6; areaOf 6 = 0
            leave 0; make 0 0 = 7; areaOf 7 = 2
            """);
        story.says("The last step is its TOP", """
            new 9 9; scope 9; begin 0 plain; begin 1 plain; enter 0 2
            make 1 0 = 0; areaOf 0 = 0  # each thread has its own
            """);
    }

    private static void views(Story story) {
        String chain = "Its VIEW is the TOP, the TOP's under-step, that one's, and so on";
        story.says(chain, LADDER, rows(0, 7, i -> "view 0 " + i + " = " + (9 - i)), """
            view 0 8 = 0; view 0 9 = REFUSED; view 0 10 = REFUSED; view 0 11 = REFUSED; view 0 12 = REFUSED
            turn 0 5; view 0 0 = 5; view 0 1 = 4; view 0 2 = 3; view 0 3 = 2; view 0 4 = 0; view 0 5 = REFUSED
            turn 0 1; view 0 0 = 1; view 0 1 = REFUSED
            """);
        String inView = "A scope is IN VIEW if it is the area of a step of the VIEW";
        story.says(inView, LADDER, """
            portal 0 9 = NULL; portal 0 5 = NULL; portal 0 2 = NULL
            turn 0 5; portal 0 9 = UNSEEN; portal 0 6 = UNSEEN; portal 0 5 = NULL; portal 0 4 = NULL; portal 0 2 = NULL
            turn 0 0; portal 0 5 = UNSEEN; portal 0 2 = UNSEEN; portal 0 9 = UNSEEN
            """);
        story.says(inView, """
            new 9 9; scope 5; scope 5; begin 0 plain; begin 1 plain; enter 0 2; enter 1 3
            portal 0 2 = NULL; portal 0 3 = UNSEEN; portal 1 2 = UNSEEN; portal 1 3 = NULL  # each has a VIEW of its own
            leave 0; portal 0 2 = UNSEEN; enter 0 2; portal 0 2 = NULL
            """);
        String nearest = "The NEAREST scope of a VIEW is the first scope met along it, from the TOP;"
            + " the root if there is none";
        story.says(nearest, """
            new 9 9; scope 5; scope 5; scope 5; begin 0 plain; begin 1 heapless
            enter 0 2 = 1; parent 2 = 0; enter 0 3 = 1; parent 3 = 2; enter 1 4 = 1; parent 4 = 0
            """);
        story.says(nearest, """
            new 9 9; scope 5; scope 5; scope 5; scope 5; scope 5; begin 0 plain; enter 0 2; enter 0 3
            turn 0 2; enter 0 4 = 1; parent 4 = 2; leave 0; leave 0  # the first is the turn's
            turn 0 1; enter 0 5 = 1; parent 5 = 0; leave 0  # there is none on IMMORTAL
            enter 0 5 = 1; enter 0 6 = 1; parent 6 = 5  # the scope on IMMORTAL
            """);
    }

    private static void entriesAndParents(Story story) {
        String entries = "A scope has ENTRIES, the number of steps of all threads that were made by enter with it";
        story.says(entries, """
            new 9 9; scope 5; begin 0 plain; begin 1 heapless; begin 2 plain; begin 3 heapless; entries 2 = 0
            enter 0 2 = 1; enter 1 2 = 2; enter 2 2 = 3; enter 3 2 = 4; entries 2 = 4
            turn 0 2; entries 2 = 4; leave 0; entries 2 = 4; turn 1 2; turn 1 2; entries 2 = 4
            leave 0; entries 2 = 3; leave 3; entries 2 = 2; leave 2; entries 2 = 1
            leave 1; leave 1; entries 2 = 1; leave 1; entries 2 = 0
            """);
        story.says(entries, "new 9 9; scope 5; begin 0 plain; begin 1 plain; begin 2 plain; begin 3 plain",
            rows(0, 3, t -> "enter " + t + " 2 = " + (6 * t + 1) + rows(2, 6,
                i -> "; turn " + t + " 1; enter " + t + " 2 = " + (6 * t + i)).replace("\n", "")),
            "entries 2 = 24; make 0 0 = 0",
            rows(0, 2, t -> ("leave " + t + "; ").repeat(12)),
            "entries 2 = 6; areaOf 0 = 2",
            "leave 3; leave 3; ".repeat(5),
            "entries 2 = 1; areaOf 0 = 2; leave 3 = 1; entries 2 = 0; areaOf 0 = REFUSED");
        String parent = "and if there are any, a parent: another scope, or the root";
        story.says(parent, """
            new 9 9; scope 5; scope 5; begin 0 plain; parent 2 = NULL; parent 3 = NULL
            enter 0 3; parent 3 = 0; enter 0 2; parent 2 = 3; leave 0; parent 2 = NULL; leave 0; parent 3 = NULL
            """);
        story.says(parent, """
            new 9 9; scope 5; scope 5; begin 0 plain; begin 1 plain; enter 0 2; enter 0 3; enter 1 2; enter 1 3
            leave 0; parent 3 = 2; leave 0; parent 3 = 2; parent 2 = 0; leave 1; parent 3 = NULL; parent 2 = 0
            """);
    }

    private static void emptied(Story story) {
        String gone = "When the ENTRIES of a scope become 0, it is EMPTIED: its OBJECTS are not there any more";
        story.says(gone, """
            new 9 9; scope 9; scope 9; begin 0 plain; make 0 0 = 0; enter 0 2; make 0 1 = 1; enter 0 3; make 0 4 = 2
            make 0 0 = 3; turn 0 1; make 0 1 = 4; leave 0; count 0 = 5; room 3 = 3
            leave 0 = 2; count 0 = 3; areaOf 2 = REFUSED; areaOf 3 = REFUSED; room 3 = 9
            areaOf 0 = 0; areaOf 1 = 2; areaOf 4 = 1; room 0 = 8; room 1 = 7; room 2 = 7  # all others stay
            get 0 2 0 = REFUSED; put 0 2 0 null = REFUSED; put 0 1 0 2 = REFUSED; assign 0 0 2 = REFUSED
            leave 0 = 1; areaOf 1 = REFUSED; areaOf 0 = 0; areaOf 4 = 1; count 0 = 2; room 2 = 9
            """);
        story.says(gone, """
            new 9 9; scope 40; begin 0 heapless; enter 0 2
            """, rows(0, 39, i -> "make 0 0 = " + i), """
            make 0 0 = FULL; room 2 = 0; leave 0 = 1; count 0 = 0; room 2 = 40; areaOf 39 = REFUSED; make 0 0 = 0
            """);
        String become = "When the ENTRIES of a scope become 0";
        story.says(become, """
            new 9 9; scope 9; begin 0 plain; begin 1 plain; enter 0 2; enter 1 2; make 0 0 = 0; hang 0 2 0
            leave 0 = 1; areaOf 0 = 2; room 2 = 8; parent 2 = 0; portal 1 2 = 0  # one is in it yet
            leave 1 = 1; areaOf 0 = REFUSED; room 2 = 9; parent 2 = NULL
            """);
        story.says(become, """
            new 9 9; scope 9; begin 0 plain; enter 0 2; make 0 0 = 0; hang 0 2 0
            turn 0 2; leave 0; areaOf 0 = 2; turn 0 1; leave 0; areaOf 0 = 2; portal 0 2 = 0; parent 2 = 0
            """);
        story.says(become, """
            new 9 9; scope 9; begin 0 plain; enter 0 2; make 0 0 = 0; turn 0 1; enter 0 2 = 2
            leave 0; areaOf 0 = 2; leave 0; areaOf 0 = 2; leave 0; areaOf 0 = REFUSED  # twice by one thread
            """);
        story.says("it has no parent and no portal", """
            new 9 9; scope 9; scope 9; begin 0 plain; enter 0 2; enter 0 3; make 0 0 = 0; hang 0 3 0; hang 0 2 null
            leave 0; parent 3 = NULL; entries 3 = 0
            enter 0 3 = 1; portal 0 3 = NULL; make 0 0 = 0; portal 0 3 = NULL  # no portal, though the number is there
            """);
        story.says("it has no parent and no portal", """
            new 9 9; scope 9; scope 9; begin 0 plain; begin 1 plain; enter 0 2; enter 0 3; parent 3 = 2
            enter 1 3 = CYCLE; leave 0; enter 1 3 = 1; parent 3 = 0  # no parent binds it any more
            """);
    }

    private static void liesIn(Story story) {
        String lies = "A scope LIES IN another if it is that one or its parent LIES IN that one";
        story.says(lies, FAMILY, """
            make 0 1 = 5; put 0 5 0 3 = OK; put 0 3 0 5 = OK; put 0 3 1 3 = OK  # that one
            put 0 3 0 2 = OK; put 1 4 0 2 = OK  # its parent
            put 0 2 0 3 = ILLEGAL; put 1 2 0 4 = ILLEGAL  # not the other way round
            """);
        story.says(lies, LADDER, """
            make 0 1 = 0; turn 0 8; make 0 1 = 1; leave 0; turn 0 2; make 0 1 = 2; leave 0; turn 0 5
            make 0 1 = 3; leave 0
            put 0 0 0 0 = OK; put 0 0 0 1 = OK; put 0 0 0 3 = OK; put 0 0 0 2 = OK; get 0 0 0 = 2
            put 0 1 0 2 = OK; put 0 3 0 2 = OK; put 0 3 0 1 = ILLEGAL; put 0 3 0 0 = ILLEGAL
            put 0 2 0 3 = ILLEGAL; put 0 2 0 1 = ILLEGAL; put 0 2 0 0 = ILLEGAL; put 0 1 0 0 = ILLEGAL
            """);
        story.says(lies, """
            new 9 9; scope 9; scope 9; begin 0 plain; begin 1 plain
            enter 0 3; make 0 1 = 0; enter 0 2; make 0 1 = 1  # the lower number lies in the higher
            put 0 1 0 0 = OK; put 0 0 0 1 = ILLEGAL; leave 0; leave 0
            enter 0 2; make 0 1 = 0; enter 0 3; make 0 1 = 1  # and now the other way round
            put 0 1 0 0 = OK; put 0 0 0 1 = ILLEGAL
            """);
    }

    private static void sees(Story story) {
        String heap = "A thread SEES an OBJECT if that is in the HEAP (a heapless thread does not)";
        story.says(heap, FAMILY_AND_HEAPLESS, """
            get 0 0 0 = NULL; get 1 0 0 = NULL; get 2 0 0 = UNSEEN
            turn 0 1; get 0 0 0 = NULL; turn 0 0; get 0 0 0 = NULL  # from anywhere
            turn 2 1; get 2 0 0 = UNSEEN; put 2 0 0 null = UNSEEN; assign 2 0 0 = UNSEEN
            """);
        story.says(heap, """
            new 9 9; begin 0 plain; make 0 1 = 0; leave 0; begin 0 heapless; get 0 0 0 = UNSEEN; leave 0
            begin 0 plain; get 0 0 0 = NULL  # as it has been begun the last time
            """);
        story.says("IMMORTAL, or in a scope that is IN VIEW", FAMILY_AND_HEAPLESS, """
            get 0 1 0 = NULL; get 1 1 0 = NULL; get 2 1 0 = NULL; turn 0 0; get 0 1 0 = NULL; leave 0
            """, """
            get 0 2 0 = NULL; get 1 2 0 = NULL; get 2 2 0 = NULL  # scope 2 is below each TOP
            get 0 3 0 = NULL; get 1 3 0 = UNSEEN; get 2 3 0 = UNSEEN
            get 0 4 0 = UNSEEN; get 1 4 0 = NULL; get 2 4 0 = UNSEEN
            """, """
            turn 0 2; get 0 2 0 = NULL; get 0 3 0 = UNSEEN  # 3 is in the ROW, but not IN VIEW
            turn 0 1; get 0 2 0 = UNSEEN; get 0 3 0 = UNSEEN; leave 0; leave 0; get 0 3 0 = NULL
            """);
    }

    private static void mayPointTo(Story story) {
        String heap = "An area MAY POINT TO an OBJECT if that is in the HEAP or IMMORTAL";
        story.says(heap, FAMILY, """
            put 0 0 0 0 = OK; put 0 1 0 0 = OK; put 0 2 0 0 = OK; put 0 3 0 0 = OK; put 1 4 0 0 = OK
            put 0 0 1 1 = OK; put 0 1 1 1 = OK; put 0 2 1 1 = OK; put 0 3 1 1 = OK; put 1 4 1 1 = OK
            get 0 0 0 = 0; get 0 1 0 = 0; get 0 2 0 = 0; get 0 3 0 = 0; get 1 4 0 = 0
            get 0 0 1 = 1; get 0 1 1 = 1; get 0 2 1 = 1; get 0 3 1 = 1; get 1 4 1 = 1
            """);
        story.says("or the area is a scope that LIES IN the OBJECT's scope", FAMILY, """
            put 0 0 0 2 = ILLEGAL; put 0 0 0 3 = ILLEGAL  # the HEAP is no scope
            put 0 1 0 2 = ILLEGAL; put 0 1 0 3 = ILLEGAL  # nor is IMMORTAL
            put 0 2 0 2 = OK; put 0 2 0 3 = ILLEGAL; put 0 3 0 3 = OK; put 0 3 0 2 = OK
            """);
    }

    private static void statics(Story story) {
        String four = "STATICS 0 .. 3 hold an OBJECT or null, null at first";
        story.says(four, "new 9 9; count 4 = NULL; count 5 = NULL; count 6 = NULL; count 7 = NULL");
        story.says(four, """
            new 9 9; begin 0 plain; make 0 0 = 0; make 0 0 = 1
            assign 0 0 0 = OK; assign 0 3 1 = OK; assign 0 -1 0 = REFUSED; assign 0 4 0 = REFUSED
            count 4 = 0; count 5 = NULL; count 6 = NULL; count 7 = 1; count 8 = REFUSED
            assign 0 1 0 = OK; assign 0 2 0 = OK; count 4 = 0; count 5 = 0; count 6 = 0; count 7 = 1
            assign 0 0 null = OK; count 4 = NULL; count 5 = 0
            """);
    }

    private static void kept(Story story) {
        String fromStatic = "A HEAP OBJECT is KEPT if it can be reached, through fields, at any depth, from a static";
        story.says(fromStatic, """
            new 20 9; begin 0 plain; make 0 0 = 0; make 0 0 = 1; make 0 0 = 2; make 0 0 = 3; make 0 0 = 4
            assign 0 0 0; count 3 = 1; assign 0 1 1; count 3 = 2; assign 0 2 2; count 3 = 3; assign 0 3 3; count 3 = 4
            collect = 1; areaOf 4 = REFUSED; areaOf 0 = 0; areaOf 1 = 0; areaOf 2 = 0; areaOf 3 = 0
            assign 0 1 null; collect = 1; areaOf 1 = REFUSED; areaOf 0 = 0; areaOf 2 = 0; areaOf 3 = 0
            """);
        story.says(fromStatic, """
            new 60 9; begin 0 plain; make 0 4 = 0; make 0 4 = 1; make 0 4 = 2; make 0 4 = 3; make 0 4 = 4; make 0 4 = 5
            put 0 0 0 1; put 0 0 1 2; put 0 0 2 3; put 0 0 3 4  # through each field
            assign 0 2 0; count 3 = 5; collect = 1; areaOf 5 = REFUSED; count 0 = 5
            """);
        String chain = "new 60 9; begin 0 plain\n" + rows(0, 29, i -> "make 0 1 = " + i);
        story.says(fromStatic, chain, rows(0, 28, i -> "put 0 " + i + " 0 " + (i + 1)), """
            assign 0 0 0; count 3 = 30; collect = 0; put 0 14 0 null; count 3 = 15; collect = 15; areaOf 15 = REFUSED
            """);
        story.says(fromStatic, chain, rows(0, 28, i -> "put 0 " + (i + 1) + " 0 " + i), """
            assign 0 0 29; count 3 = 30; collect = 0; put 0 15 0 null; count 3 = 15; collect = 15; areaOf 14 = REFUSED
            """);
        String fromOther = "or from an OBJECT that is not in the HEAP";
        story.says(fromOther, FAMILY, """
            count 3 = 0; put 0 1 1 0; count 3 = 1; collect = 0; put 0 1 1 null; count 3 = 0  # IMMORTAL
            put 0 3 0 0; count 3 = 1; collect = 0; areaOf 0 = 0  # a scope
            leave 0; count 3 = 0; areaOf 0 = 0; collect = 1; areaOf 0 = REFUSED  # that one is EMPTIED
            """);
        story.says(fromOther, FAMILY, """
            put 0 2 1 0; turn 0 0; make 0 1 = 5; make 0 0 = 6; put 0 0 1 5; put 0 5 0 6
            count 3 = 3; collect = 0; put 0 0 1 null; count 3 = 1; collect = 2  # at any depth
            """);
        story.says(fromOther, """
            new 20 9; begin 0 plain; turn 0 1; make 0 1 = 0; leave 0; make 0 1 = 1; put 0 0 0 1; put 0 1 0 0
            count 3 = 1; collect = 0; areaOf 1 = 0  # IMMORTAL needs no static, and is not counted itself
            """);
        String reached = "A HEAP OBJECT is KEPT if it can be reached";
        story.says(reached, """
            new 30 9; begin 0 plain; make 0 1 = 0; make 0 1 = 1; make 0 1 = 2; make 0 2 = 3
            put 0 0 0 0; put 0 1 0 2; put 0 2 0 1  # what holds itself, and a ring
            count 3 = 0; assign 0 0 3; count 3 = 1; collect = 3; count 0 = 1; areaOf 3 = 0
            """);
        story.says(reached, """
            new 30 9; begin 0 plain; make 0 1 = 0; make 0 1 = 1; make 0 1 = 2
            put 0 0 0 1; put 0 1 0 2; put 0 2 0 0; assign 0 0 1; assign 0 1 2
            count 3 = 3; collect = 0  # a ring that is reached twice is counted once
            """);
        story.says(reached, """
            new 30 9; begin 0 plain; make 0 1 = 0; make 0 0 = 1; put 0 0 0 1; assign 0 0 1
            count 3 = 1; collect = 1; areaOf 0 = REFUSED; areaOf 1 = 0  # to hold a KEPT one is not to be KEPT
            """);
    }

    /** Each call with a wrong number and all that it could answer for else. */
    private static void numbersFirst(Story story) {
        String first = "In every call numbers are tested first";
        story.says(first, "new 9 9", "scope 5\n".repeat(8), "scope 5 = FULL; scope 0 = REFUSED; scope 41 = REFUSED");
        story.says(first, FAMILY, "turn 0 3; ".repeat(9), """
            enter 0 3 = CYCLE; enter 0 6 = REFUSED; enter 0 1 = REFUSED; enter 2 3 = REFUSED  # a full ROW as well
            turn 0 3 = FULL; turn 0 4 = UNSEEN; turn 0 6 = REFUSED; turn 2 4 = REFUSED; turn 0 -1 = REFUSED
            """);
        story.says(first, "new 9 4; begin 0 heapless", "turn 0 1; ".repeat(11), """
            turn 0 0 = ILLEGAL; turn 0 2 = REFUSED; turn 1 0 = REFUSED; turn 4 0 = REFUSED
            make 0 3 = 0; make 0 0 = FULL; make 0 5 = REFUSED; make 0 -1 = REFUSED; make 1 0 = REFUSED
            """);
        story.says(first, FAMILY, """
            put 0 4 0 3 = UNSEEN; put 2 4 0 3 = REFUSED; put 0 4 2 3 = REFUSED; put 0 4 4 3 = REFUSED
            put 0 4 -1 3 = REFUSED; put 0 4 0 5 = REFUSED; put 0 4 0 -2 = REFUSED; put 0 5 0 4 = REFUSED
            put 0 0 0 2 = ILLEGAL; put 0 0 2 2 = REFUSED; put 0 0 0 40 = REFUSED; put 2 0 0 2 = REFUSED
            """);
        story.says(first, FAMILY, """
            get 0 4 0 = UNSEEN; get 2 4 0 = REFUSED; get 0 4 2 = REFUSED; get 0 4 4 = REFUSED; get 0 4 -1 = REFUSED
            get 0 5 0 = REFUSED; get 0 3 0 = NULL; get 0 3 2 = REFUSED; get 2 3 0 = REFUSED
            """);
        story.says(first, FAMILY, """
            hang 0 4 3 = UNSEEN; hang 0 4 5 = REFUSED; hang 0 4 -2 = REFUSED; hang 2 4 3 = REFUSED
            hang 0 6 4 = REFUSED; hang 0 0 4 = REFUSED; hang 0 1 4 = REFUSED; hang 0 3 2 = ILLEGAL; hang 2 3 2 = REFUSED
            portal 0 4 = UNSEEN; portal 2 4 = REFUSED; portal 0 6 = REFUSED; portal 0 3 = NULL; portal 2 3 = REFUSED
            """);
        story.says(first, FAMILY, """
            assign 0 0 4 = UNSEEN; assign 0 4 4 = REFUSED; assign 0 -1 4 = REFUSED; assign 2 0 4 = REFUSED
            assign 0 0 3 = ILLEGAL; assign 0 4 3 = REFUSED; assign 0 -1 3 = REFUSED; assign 2 0 3 = REFUSED
            assign 0 4 null = REFUSED; assign 2 0 null = REFUSED
            """);
    }

    /** Each place of each call that would be answered, with each number that is wrong there. */
    private static void wrongNumbers(Story story) {
        String[] threads = {"-1", "3", "4"};
        String[] scopes = {"-1", "0", "1", "6", "9", "10"};
        String[] areas = {"-1", "6", "9", "10"};
        String[] objects = {"-2", "-1", "5", "7", "39", "40"};
        String[] objectsOrNull = {"-6", "-2", "5", "7", "39", "40"};
        String[] fields = {"-1", "2", "3", "4"};
        String[] statics = {"-1", "4", "7"};
        String notBegun = "a thread that is not begun (with begin: that is)";
        for (String call : new String[] {"enter ? 5", "turn ? 1", "leave ?", "make ? 0", "put ? 0 0 0", "get ? 0 0",
            "hang ? 2 2", "portal ? 2", "assign ? 0 0", "view ? 0"}) {
            wrong(story, notBegun, call, threads);
        }
        wrong(story, notBegun, "begin ? plain", "-1", "0", "1", "2", "4");
        wrong(story, notBegun, "begin ? heapless", "-1", "0", "1", "2", "4");
        String notMade = "an area or scope that is not made";
        wrong(story, notMade, "turn 0 ?", areas);
        wrong(story, notMade, "room ?", areas);
        for (String call : new String[] {"enter 0 ?", "hang 0 ? 3", "hang 0 ? null", "portal 0 ?", "parent ?",
            "entries ?"}) {
            wrong(story, notMade, call, scopes);
        }
        String noObject = "an OBJECT number that no OBJECT has";
        for (String call : new String[] {"put 0 ? 0 0", "put 0 ? 0 null", "get 0 ? 0", "areaOf ?"}) {
            wrong(story, noObject, call, objects);
        }
        for (String call : new String[] {"put 0 3 0 ?", "hang 0 3 ?", "assign 0 0 ?"}) {
            wrong(story, noObject, call, objectsOrNull);
        }
        String range = "or any other number out of range is REFUSED";
        wrong(story, range, "scope ?", "-1", "0", "41");
        wrong(story, range, "make 0 ?", "-1", "5");
        wrong(story, range, "put 0 3 ? 0", fields);
        wrong(story, range, "put 0 3 ? null", fields);
        wrong(story, range, "get 0 3 ?", fields);
        wrong(story, range, "assign 0 ? 0", statics);
        wrong(story, range, "assign 0 ? null", statics);
        wrong(story, range, "view 0 ?", "-1", "3", "12");
        wrong(story, range, "count ?", "-1", "8");
    }

    /** In FAMILY_AND_HEAPLESS, where 5 has been an OBJECT of the HEAP and 7 one of a scope. */
    private static void wrong(Story story, String sentence, String call, String... numbers) {
        StringBuilder rows = new StringBuilder(FAMILY_AND_HEAPLESS);
        rows.append("turn 0 0; make 0 2 = 5; turn 0 1; make 0 2 = 6; leave 0; leave 0; assign 0 0 0\n");
        rows.append("enter 1 5; make 1 2 = 7; leave 1; collect = 1\n");
        for (String number : numbers) {
            rows.append(call.replace("?", number)).append(" = REFUSED\n");
        }
        for (String number : FAR_OUT) {
            rows.append(call.replace("?", number)).append(" = REFUSED\n");
        }
        story.says(sentence, rows.toString());
    }

    private static void refusedChangesNothing(Story story) {
        String nothing = "A refused call (below 0) changes nothing";
        story.says(nothing, FAMILY_AND_HEAPLESS, """
            scope 0 = REFUSED; count 1 = 6; scope 9 = 6
            begin 0 heapless = REFUSED; turn 0 0; leave 0  # 0 is plain as before
            begin 2 plain = REFUSED; turn 2 0 = ILLEGAL
            enter 0 2 = CYCLE; entries 2 = 3; view 0 0 = 3; enter 0 4 = CYCLE; entries 4 = 1; parent 4 = 2
            turn 0 4 = UNSEEN; view 0 0 = 3; make 0 5 = REFUSED; room 3 = 17; count 0 = 5
            """);
        story.says(nothing, FAMILY_AND_HEAPLESS, """
            put 0 3 0 0; put 0 3 0 4 = UNSEEN; get 0 3 0 = 0; put 0 2 0 0; put 0 2 0 3 = ILLEGAL; get 0 2 0 = 0
            put 2 2 0 0 = UNSEEN; put 0 2 0 5 = REFUSED; put 2 2 1 1; get 0 2 0 = 0; get 2 2 0 = UNSEEN; get 0 2 0 = 0
            hang 0 3 3; hang 0 3 2 = ILLEGAL; portal 0 3 = 3; hang 0 3 4 = UNSEEN; hang 0 3 5 = REFUSED; portal 0 3 = 3
            hang 1 3 null = UNSEEN; portal 1 3 = UNSEEN; portal 0 3 = 3
            assign 0 0 0; assign 0 0 3 = ILLEGAL; assign 0 0 4 = UNSEEN; assign 0 0 5 = REFUSED; count 4 = 0
            """);
        story.says(nothing, "new 9 4; begin 0 plain; make 0 0; scope 3; scope 3; begin 1 plain; enter 1 2; enter 1 3",
            "turn 0 0; ".repeat(11), """
            turn 0 0 = FULL; turn 0 1 = FULL; enter 0 2 = FULL; entries 2 = 1; enter 0 3 = CYCLE; leave 0 = 11
            make 1 3 = FULL; room 3 = 3; make 1 2 = 1; make 1 0 = FULL; room 3 = 0; count 0 = 2
            """);
    }

    private static void nulls(Story story) {
        String said = "Where an OBJECT is to be given, -1 stands for null if that is said";
        story.says(said, FAMILY, """
            put 0 3 0 2; put 0 3 0 -1 = OK; get 0 3 0 = NULL; put 0 0 0 -1 = OK; put 0 1 0 -1 = OK; put 0 2 0 -1 = OK
            hang 0 3 3; hang 0 3 -1 = OK; portal 0 3 = NULL; assign 0 1 0; assign 0 1 -1 = OK; count 5 = NULL
            put 0 3 0 -2 = REFUSED; hang 0 3 -2 = REFUSED; assign 0 1 -2 = REFUSED
            put 0 3 0 -6 = REFUSED; hang 0 3 -6 = REFUSED; assign 0 1 -6 = REFUSED  # NULL is an answer only
            """);
        story.says(said, FAMILY, """
            put 0 -1 0 0 = REFUSED; put 0 -1 0 -1 = REFUSED; get 0 -1 0 = REFUSED; areaOf -1 = REFUSED
            """);
        story.says(said, FAMILY_AND_HEAPLESS, """
            put 0 4 0 -1 = UNSEEN; put 2 0 0 -1 = UNSEEN; put 0 3 2 -1 = REFUSED
            hang 0 4 -1 = UNSEEN; hang 0 5 -1 = UNSEEN; hang 0 0 -1 = REFUSED; assign 0 4 -1 = REFUSED
            put 2 2 0 -1 = OK; hang 2 2 -1 = OK; assign 2 0 -1 = OK  # a heapless thread too
            """);
    }
}

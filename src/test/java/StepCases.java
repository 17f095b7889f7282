/** The promises 1 to 6: a new object, scopes, and the steps of the threads. */
final class StepCases {
    private StepCases() {
    }

    static void tell(Story story) {
        newObject(story);
        scope(story);
        begin(story);
        enter(story);
        enterIsACycle(story);
        enterIsFull(story);
        turn(story);
        turnToAScope(story);
        turnIsFull(story);
        leave(story);
        leaveOfAnEntry(story);
    }

    private static void newObject(Story story) {
        story.section("Promise 1");
        String clamped = "The sizes of the HEAP and of IMMORTAL, each clamped to 4 .. 60";
        String[][] sizes = {
            {"MIN", "4"}, {"-60", "4"}, {"-1", "4"}, {"0", "4"}, {"3", "4"}, {"4", "4"}, {"5", "5"}, {"31", "31"},
            {"59", "59"}, {"60", "60"}, {"61", "60"}, {"1000", "60"}, {"MAX", "60"},
        };
        for (String[] size : sizes) {
            story.says(clamped, "new " + size[0] + " 17; room 0 = " + size[1] + "; room 1 = 17");
            story.says(clamped, "new 17 " + size[0] + "; room 0 = 17; room 1 = " + size[1]);
            story.says(clamped, "new " + size[0] + " " + size[0] + "; room 0 = " + size[1] + "; room 1 = " + size[1]);
        }
        story.says(clamped, """
            new 3 3; begin 0 plain; make 0 4 = FULL; make 0 3 = 0; make 0 0 = FULL
            turn 0 1; make 0 4 = FULL; make 0 3 = 1; make 0 0 = FULL
            """);
        story.says("No scopes, no OBJECTS, all threads idle", """
            new 9 9; count 1 = 2; room 2 = REFUSED; entries 2 = REFUSED; parent 2 = REFUSED
            scope 5 = 2; entries 2 = 0; parent 2 = NULL; room 2 = 5
            """);
        story.says("No scopes, no OBJECTS, all threads idle", "new 9 9; count 0 = 0; count 3 = 0; collect = 0",
            TermsCases.rows(0, 39, i -> "areaOf " + i + " = REFUSED"));
        story.says("No scopes, no OBJECTS, all threads idle", "new 9 9; count 2 = 0", TermsCases.rows(0, 3, t -> """
            leave # = REFUSED; view # 0 = REFUSED; make # 0 = REFUSED; turn # 0 = REFUSED; turn # 1 = REFUSED
            assign # 0 null = REFUSED; begin # plain = OK
            """.replace("#", String.valueOf(t))));
    }

    private static void scope(Story story) {
        story.section("Promise 2");
        String made = "Makes a scope of the size 1 .. 40: its area number";
        story.says(made, "new 9 9; scope 0 = REFUSED; scope 1 = 2; room 2 = 1; scope 2 = 3; room 3 = 2");
        story.says(made, "new 9 9; scope 41 = REFUSED; scope 40 = 2; room 2 = 40; scope 39 = 3; room 3 = 39");
        story.says(made, """
            new 9 9; scope -1 = REFUSED; scope MIN = REFUSED; scope MAX = REFUSED; scope 20 = 2; count 1 = 3
            """);
        story.says(made, """
            new 9 9; scope 7 = 2; begin 0 plain; enter 0 2; make 0 4; scope 8 = 3; room 2 = 2; room 3 = 8; entries 2 = 1
            """);
        story.says("8 scopes: FULL", "new 9 9", TermsCases.rows(2, 8, i -> "scope 5 = " + i), """
            count 1 = 9; scope 6 = 9; count 1 = 10; scope 5 = FULL; scope 1 = FULL; scope 40 = FULL
            scope 0 = REFUSED; scope 41 = REFUSED; room 9 = 6; count 1 = 10
            begin 0 plain; enter 0 9 = 1; leave 0; scope 5 = FULL  # none is given back
            """);
    }

    private static void begin(Story story) {
        story.section("Promise 3");
        String begun = "The idle thread 0 .. 3 is begun, heapless or plain: OK";
        story.says(begun, """
            new 9 9; begin 0 plain = OK; count 2 = 1; view 0 0 = 0; turn 0 0 = 2
            begin 3 heapless = OK; count 2 = 2; view 3 0 = 1; turn 3 0 = ILLEGAL; turn 3 1 = 2
            begin 1 heapless = OK; begin 2 plain = OK; count 2 = 4; view 1 0 = 1; view 2 0 = 0
            """);
        story.says(begun, """
            new 9 9; begin -1 plain = REFUSED; begin 4 plain = REFUSED; begin 4 heapless = REFUSED; count 2 = 0
            """);
        story.says(begun, "new 9 9; begin MIN plain = REFUSED; begin MAX heapless = REFUSED; count 2 = 0");
        story.says(begun, """
            new 9 9; begin 0 plain = OK; begin 0 plain = REFUSED; begin 0 heapless = REFUSED; view 0 0 = 0; turn 0 0 = 2
            begin 0 plain = REFUSED; view 0 0 = 0; leave 0 = 1  # it is begun, not idle
            """);
        story.says(begun, """
            new 9 9; begin 1 heapless = OK; begin 1 heapless = REFUSED; begin 1 plain = REFUSED; view 1 0 = 1
            turn 1 0 = ILLEGAL
            """);
        story.says(begun, """
            new 9 9; scope 5; begin 2 plain; enter 2 2; turn 2 1; leave 2; leave 2; leave 2 = 0
            begin 2 heapless = OK; view 2 0 = 1; view 2 1 = REFUSED; turn 2 0 = ILLEGAL; leave 2 = 0  # idle once more
            begin 2 plain = OK; view 2 0 = 0; view 2 1 = REFUSED; turn 2 0 = 2
            """);
    }

    private static void enter(Story story) {
        story.section("Promise 4");
        String step = "The thread enters a scope: a new last step with it, the TOP being its under-step";
        story.says(step, """
            new 9 9; scope 5; scope 5; begin 0 plain; begin 1 heapless
            enter 0 2 = 1; view 0 0 = 2; view 0 1 = 0; view 0 2 = REFUSED; leave 0 = 1; enter 0 2 = 1
            enter 0 3 = 1; view 0 0 = 3; view 0 1 = 2; view 0 2 = 0; view 0 3 = REFUSED
            enter 1 2 = 2; view 1 0 = 2; view 1 1 = 1; view 1 2 = REFUSED
            """);
        story.says(step, """
            new 9 9; scope 5; scope 5; scope 5; begin 0 plain; enter 0 2; enter 0 3; turn 0 2; enter 0 4 = 1
            view 0 0 = 4; view 0 1 = 2; view 0 2 = 0; view 0 3 = REFUSED  # under it is the turn, under that the HEAP
            leave 0 = 4; view 0 0 = 2; view 0 1 = 0
            """);
        story.says("The area is no scope: REFUSED", """
            new 9 9; scope 5; begin 0 plain; begin 1 heapless
            enter 0 0 = REFUSED; enter 0 1 = REFUSED; enter 1 0 = REFUSED; enter 1 1 = REFUSED
            enter 0 3 = REFUSED; enter 0 9 = REFUSED; enter 0 10 = REFUSED; enter 0 -1 = REFUSED
            enter 0 MIN = REFUSED; enter 0 MAX = REFUSED; enter 2 2 = REFUSED; enter -1 2 = REFUSED; enter 4 2 = REFUSED
            enter 0 2 = 1
            """);
        story.says("answers its ENTRIES", """
            new 9 9; scope 5; scope 5; begin 0 plain; begin 1 plain; begin 2 heapless; begin 3 heapless
            enter 3 2 = 1; enter 1 2 = 2; enter 0 2 = 3; enter 2 2 = 4; leave 1; enter 1 2 = 4
            enter 1 3 = 1; enter 2 3 = 2; turn 2 1; enter 2 2 = 5
            """);
        String parent = "Else, if it had no ENTRIES, its parent becomes that NEAREST";
        story.says(parent, """
            new 9 9; scope 5; scope 5; scope 5; begin 0 plain; begin 1 heapless
            enter 0 4; parent 4 = 0; enter 0 2; parent 2 = 4; enter 0 3; parent 3 = 2; leave 0
            turn 0 4; enter 0 3; parent 3 = 4; leave 0; turn 0 0; enter 0 3; parent 3 = 0; leave 0; parent 3 = NULL
            enter 1 3; parent 3 = 0
            """);
        story.says(parent, """
            new 9 9; scope 5; scope 5; begin 0 plain; begin 1 plain; enter 0 2; enter 0 3; enter 1 2; enter 1 3 = 2
            parent 3 = 2; leave 0; leave 0; leave 0; parent 3 = 2; parent 2 = 0  # 1 is in both yet
            """);
    }

    private static void enterIsACycle(Story story) {
        String inView = "The scope is IN VIEW";
        story.says(inView, """
            new 9 9; scope 5; scope 5; scope 5; begin 0 plain; enter 0 2; enter 0 2 = CYCLE; enter 0 3
            enter 0 2 = CYCLE; enter 0 3 = CYCLE; enter 0 4; enter 0 2 = CYCLE; enter 0 3 = CYCLE; enter 0 4 = CYCLE
            turn 0 3; enter 0 2 = CYCLE; enter 0 3 = CYCLE; enter 0 4 = 2  # its parent is 3, and it is not IN VIEW
            """);
        story.says(inView, TermsCases.LADDER, TermsCases.rows(2, 9, scope -> "enter 0 " + scope + " = CYCLE"));
        story.says(inView, """
            new 9 9; scope 5; begin 0 plain; enter 0 2; turn 0 0; enter 0 2 = 2; enter 0 2 = CYCLE
            turn 0 1; enter 0 2 = 3; view 0 0 = 2; view 0 1 = 1; view 0 2 = REFUSED  # not IN VIEW from there
            """);
        String parent = "or it has ENTRIES and its parent is not the NEAREST of the thread's VIEW: CYCLE";
        story.says(parent, TermsCases.FAMILY, """
            enter 0 4 = CYCLE; enter 1 3 = CYCLE  # the parent is 2, the NEAREST is 3, or 4
            turn 0 2; enter 0 4 = 2; leave 0; turn 0 1; enter 0 4 = CYCLE; enter 0 3 = CYCLE; enter 0 2 = 3
            enter 0 4 = 2
            """);
        story.says(parent, """
            new 9 9; scope 5; scope 5; begin 0 plain; begin 1 plain; begin 2 heapless; enter 0 2; enter 1 3
            enter 0 3 = CYCLE; enter 1 2 = CYCLE  # the parent is the root, the NEAREST is not
            enter 2 3 = 2; enter 2 2 = CYCLE; leave 0; enter 2 2 = 1; parent 2 = 3; enter 0 2 = CYCLE
            leave 2; enter 0 2 = 1; parent 2 = 0  # without ENTRIES any parent will do
            """);
        story.says(parent, """
            new 9 9; scope 5; scope 5; scope 5; begin 0 plain; begin 1 plain; enter 0 2; enter 0 3; enter 0 4
            enter 1 2; enter 1 4 = CYCLE; enter 1 3 = 2; enter 1 4 = 2  # the parent's parent is not enough
            """);
    }

    private static void enterIsFull(Story story) {
        String full = "The ROW has 12 steps: FULL";
        String eleven = "new 9 9; scope 5; scope 5; scope 5; scope 5; begin 0 plain; enter 0 2\n"
            + "turn 0 2; ".repeat(9);
        story.says(full, eleven, """
            enter 0 3 = 1; parent 3 = 2; enter 0 4 = FULL; entries 4 = 0; parent 4 = NULL; view 0 0 = 3
            leave 0 = 11; enter 0 4 = 1; enter 0 3 = FULL  # the twelfth is made, the thirteenth is not
            """);
        story.says(full, eleven, """
            turn 0 2 = 12; begin 1 plain; enter 1 4 = 1; enter 1 3 = 1
            enter 0 2 = CYCLE; enter 0 3 = CYCLE; enter 0 4 = CYCLE; enter 0 5 = FULL  # CYCLE is tested before
            enter 0 6 = REFUSED; enter 0 1 = REFUSED; leave 1; enter 0 3 = FULL
            """);
        story.says(full, "new 9 9; scope 5; begin 0 heapless; enter 0 2 = 1",
            TermsCases.rows(2, 6, i -> "turn 0 1; enter 0 2 = " + i),
            "turn 0 1 = FULL; turn 0 2 = FULL; enter 0 2 = CYCLE; leave 0 = 11; enter 0 2 = 6",
            "begin 1 plain; enter 1 2 = 7");
    }

    private static void turn(Story story) {
        story.section("Promise 5");
        String base = "HEAP or IMMORTAL: a new last step with it and without an under-step";
        story.says(base, """
            new 9 9; scope 5; begin 0 plain; enter 0 2
            turn 0 0 = 3; view 0 0 = 0; view 0 1 = REFUSED; turn 0 1 = 4; view 0 0 = 1; view 0 1 = REFUSED
            turn 0 1 = 5; view 0 0 = 1; view 0 1 = REFUSED; turn 0 0 = 6; view 0 1 = REFUSED
            leave 0 = 5; leave 0 = 4; leave 0 = 3; leave 0 = 2; view 0 0 = 2; view 0 1 = 0
            """);
        story.says("The thread turns to an area for a while", """
            new 9 9; scope 5; begin 0 plain; turn 0 -1 = REFUSED; turn 0 3 = REFUSED; turn 0 9 = REFUSED
            turn 0 10 = REFUSED
            turn 0 MIN = REFUSED; turn 0 MAX = REFUSED; turn 1 0 = REFUSED; turn -1 0 = REFUSED; turn 4 0 = REFUSED
            turn 0 1 = 2; make 0 0 = 0; areaOf 0 = 1; leave 0 = 1; make 0 0 = 1; areaOf 1 = 0
            """);
        story.says("(the HEAP for a heapless thread: ILLEGAL)", """
            new 9 9; scope 5; begin 0 heapless; begin 1 plain; turn 0 0 = ILLEGAL; turn 0 1 = 2; turn 0 0 = ILLEGAL
            enter 0 2; turn 0 0 = ILLEGAL; view 0 0 = 2; turn 1 0 = 2; turn 0 2 = 4
            """);
        story.says("Else the number of steps", """
            new 9 9; scope 5; begin 0 plain; begin 1 heapless; turn 0 0 = 2; turn 0 1 = 3; enter 0 2
            turn 0 2 = 5; turn 1 1 = 2
            """);
    }

    private static void turnToAScope(Story story) {
        String unseen = "A scope: not IN VIEW: UNSEEN";
        story.says(unseen, TermsCases.FAMILY_AND_HEAPLESS, """
            turn 0 5 = UNSEEN; turn 0 4 = UNSEEN; turn 1 3 = UNSEEN; turn 2 3 = UNSEEN; turn 2 2 = 3; turn 0 2 = 4
            turn 0 3 = UNSEEN; turn 0 0 = 5; turn 0 2 = UNSEEN; turn 0 3 = UNSEEN  # in the ROW, but not IN VIEW
            leave 0; leave 0; turn 0 3 = 4; leave 0; leave 0; turn 0 3 = UNSEEN
            """);
        String under = "else a new last step with it, whose under-step is that of the first step in the VIEW,"
            + " from the TOP, with the scope";
        story.says(under, """
            new 9 9; scope 5; scope 5; scope 5; begin 0 plain; enter 0 2; enter 0 3; enter 0 4
            turn 0 4 = 5; view 0 0 = 4; view 0 1 = 3; view 0 2 = 2; view 0 3 = 0; view 0 4 = REFUSED  # the TOP's own
            turn 0 3 = 6; view 0 0 = 3; view 0 1 = 2; view 0 2 = 0; view 0 3 = REFUSED
            turn 0 2 = 7; view 0 0 = 2; view 0 1 = 0; view 0 2 = REFUSED; turn 0 3 = UNSEEN
            turn 0 2 = 8; view 0 0 = 2; view 0 1 = 0; view 0 2 = REFUSED
            leave 0 = 7; leave 0 = 6; leave 0 = 5; view 0 0 = 4; view 0 1 = 3; entries 2 = 1; entries 3 = 1
            entries 4 = 1
            """);
        story.says(under, """
            new 9 9; scope 5; scope 5; begin 0 plain; enter 0 2; turn 0 1; enter 0 2 = 2; enter 0 3; turn 0 2 = 6
            view 0 0 = 2; view 0 1 = 1; view 0 2 = REFUSED  # the entry on IMMORTAL, not the one on the HEAP
            """);
        story.says(under, TermsCases.LADDER, """
            turn 0 2 = 10; view 0 0 = 2; view 0 1 = 0; view 0 2 = REFUSED; leave 0
            turn 0 9 = 10; view 0 0 = 9; view 0 1 = 8; view 0 8 = 0; view 0 9 = REFUSED
            """);
    }

    private static void turnIsFull(Story story) {
        String full = "The ROW has 12 steps: FULL (tested last)";
        story.says(full, "new 9 9; begin 0 plain", TermsCases.rows(2, 12, i -> "turn 0 0 = " + i), """
            turn 0 0 = FULL; turn 0 1 = FULL; leave 0 = 11; turn 0 1 = 12; turn 0 0 = FULL
            """);
        story.says(full, "new 9 9; scope 5; scope 5; begin 0 heapless; enter 0 2", "turn 0 2; ".repeat(10), """
            turn 0 2 = FULL; turn 0 1 = FULL; turn 0 0 = ILLEGAL; turn 0 3 = UNSEEN; turn 0 4 = REFUSED
            """);
    }

    private static void leave(Story story) {
        story.section("Promise 6");
        story.says("The TOP goes", """
            new 9 9; scope 5; scope 5; begin 0 plain; begin 1 plain; enter 0 2; enter 0 3; turn 0 2; turn 0 1
            leave 0; view 0 0 = 2; view 0 1 = 0; leave 0; view 0 0 = 3; view 0 1 = 2; leave 0; view 0 0 = 2
            leave 0; view 0 0 = 0; view 1 0 = 0
            """);
        story.says("The TOP goes", """
            new 9 9; begin 0 plain; leave 1 = REFUSED; leave -1 = REFUSED; leave 4 = REFUSED; leave MIN = REFUSED
            leave MAX = REFUSED; count 2 = 1
            """);
        story.says("It is the only step: the thread is idle", """
            new 9 9; begin 0 plain; begin 1 heapless; make 0 0 = 0; make 1 0 = 1; leave 0 = 0; count 2 = 1
            leave 0 = REFUSED; view 0 0 = REFUSED; make 0 0 = REFUSED; turn 0 1 = REFUSED; get 0 0 0 = REFUSED
            leave 1 = 0; count 2 = 0; areaOf 0 = 0; areaOf 1 = 1  # what it has made stays
            begin 0 heapless = OK; begin 1 plain = OK
            """);
        story.says("Answers the number of steps left",
            "new 9 9; scope 5; begin 0 plain; enter 0 2", "turn 0 1; ".repeat(10),
            TermsCases.rows(0, 11, i -> "leave 0 = " + (11 - i)), "leave 0 = REFUSED");
    }

    private static void leaveOfAnEntry(Story story) {
        String entry = "If it was made by enter, its scope has one of the ENTRIES less, and may be EMPTIED";
        story.says(entry, """
            new 9 9; scope 5; scope 5; begin 0 plain; begin 1 plain; enter 0 2; enter 0 3; enter 1 2; make 1 0 = 0
            leave 0; entries 3 = 0; entries 2 = 2; leave 0; entries 2 = 1; areaOf 0 = 2; leave 0; entries 2 = 1
            leave 1; entries 2 = 0; areaOf 0 = REFUSED; leave 1; entries 2 = 0
            """);
        story.says(entry, """
            new 9 9; scope 5; begin 0 plain; enter 0 2; make 0 1 = 0; turn 0 2; make 0 0 = 1; leave 0 = 2
            entries 2 = 1; areaOf 0 = 2; areaOf 1 = 2; turn 0 0; leave 0; turn 0 1; leave 0
            entries 2 = 1  # made by turn
            leave 0 = 1; entries 2 = 0; areaOf 0 = REFUSED; areaOf 1 = REFUSED; room 2 = 5
            """);
        story.says(entry, """
            new 9 9; scope 5; scope 5; begin 0 plain; begin 1 plain; enter 0 2; make 0 0 = 0; enter 1 3; make 1 0 = 1
            leave 0; areaOf 0 = REFUSED; areaOf 1 = 3; entries 3 = 1; room 3 = 4; parent 3 = 0  # that scope alone
            """);
    }

    /** Two objects that are used in turn: each begins with nothing of the other's and keeps its own. */
    static void twoObjects(Checks checks) {
        checks.part("Promise 1: a new object beside another one");
        ScopedMemory one = new ScopedMemory(10, 20);
        one.scope(5);
        one.begin(0, false);
        one.enter(0, 2);
        one.make(0, 1);
        one.hang(0, 2, 0);
        ScopedMemory other = new ScopedMemory(30, 40);
        int[] got = {other.count(0), other.count(1), other.count(2), other.room(0), other.room(1), other.view(0, 0)};
        int[] due = {0, 2, 0, 30, 40, -1};
        for (int i = 0; i < due.length; i++) {
            checks.due("question " + i + " to the other", got[i], due[i]);
        }
        other.scope(9);
        other.begin(0, true);
        other.make(0, 2);
        other.assign(0, 0, 0);
        int[] kept = {one.count(0), one.count(1), one.count(4), one.room(0), one.room(2), one.view(0, 0),
            one.portal(0, 2), one.areaOf(0), one.entries(2), one.get(0, 0, 0), one.get(0, 0, 1)};
        int[] dueOfKept = {1, 3, -6, 10, 3, 2, 0, 2, 1, -6, -1};
        for (int i = 0; i < kept.length; i++) {
            checks.due("question " + i + " to the one", kept[i], dueOfKept[i]);
        }
    }
}

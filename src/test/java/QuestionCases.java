/** The promises 14 to 19: what can be asked. */
final class QuestionCases {
    private static final String FAMILY = TermsCases.FAMILY;
    private static final String FAMILY_AND_HEAPLESS = TermsCases.FAMILY_AND_HEAPLESS;

    private QuestionCases() {
    }

    static void tell(Story story) {
        areaOf(story);
        room(story);
        parent(story);
        entries(story);
        view(story);
        count(story);
    }

    private static void areaOf(Story story) {
        story.section("Promise 14");
        String area = "The area of the OBJECT";
        story.says(area, FAMILY, """
            areaOf 0 = 0; areaOf 1 = 1; areaOf 2 = 2; areaOf 3 = 3; areaOf 4 = 4; areaOf 5 = REFUSED
            areaOf 39 = REFUSED
            areaOf 40 = REFUSED; areaOf -1 = REFUSED; areaOf MIN = REFUSED; areaOf MAX = REFUSED
            """);
        story.says(area, FAMILY, """
            leave 0; areaOf 3 = REFUSED; areaOf 2 = 2; collect = 1; areaOf 0 = REFUSED; areaOf 1 = 1
            leave 0; leave 0; leave 1; leave 1; leave 1; areaOf 1 = 1; areaOf 2 = REFUSED
            areaOf 4 = REFUSED  # no thread is needed
            """);
        story.says(area, "new 9 9; scope 5", "scope 5\n".repeat(7), """
            begin 0 plain; enter 0 9; make 0 0 = 0; areaOf 0 = 9; turn 0 0; make 0 0 = 1; areaOf 1 = 0
            """);
    }

    private static void room(Story story) {
        story.section("Promise 15");
        String room = "How much room the area has";
        story.says(room, FAMILY, """
            room 0 = 27; room 1 = 27; room 2 = 17; room 3 = 17; room 4 = 17; room 5 = 20; room 6 = REFUSED
            room 9 = REFUSED
            room 10 = REFUSED; room -1 = REFUSED; room MIN = REFUSED; room MAX = REFUSED
            """);
        story.says(room, FAMILY, """
            make 0 4; room 3 = 12; put 0 3 0 2; assign 0 0 0; hang 0 3 3; room 3 = 12; room 0 = 27
            room 2 = 17  # stores take none
            leave 0; room 3 = 20; room 2 = 17; collect = 0; room 0 = 27; assign 0 0 null; room 0 = 27
            collect = 1; room 0 = 30
            """);
        story.says(room, """
            new 4 60; scope 1; room 0 = 4; room 1 = 60; room 2 = 1; begin 0 plain; make 0 3; room 0 = 0
            enter 0 2; make 0 0; room 2 = 0; leave 0; room 2 = 1; collect = 1; room 0 = 4
            """);
    }

    private static void parent(Story story) {
        story.section("Promise 16");
        story.says("The parent of a scope, 0 for the root", FAMILY, """
            parent 2 = 0; parent 3 = 2; parent 4 = 2; turn 1 1; enter 1 5; parent 5 = 0; leave 1; leave 1
            enter 1 5; parent 5 = 4
            """);
        story.says("NULL if it has no ENTRIES", FAMILY, """
            parent 5 = NULL; leave 0; parent 3 = NULL; parent 2 = 0; leave 0; parent 2 = 0; leave 1; leave 1
            parent 2 = NULL
            parent 4 = NULL; enter 1 3; parent 3 = 0
            """);
        story.says("the HEAP or IMMORTAL: REFUSED", FAMILY, """
            parent 0 = REFUSED; parent 1 = REFUSED; parent 6 = REFUSED; parent 9 = REFUSED
            parent 10 = REFUSED; parent -1 = REFUSED
            parent MIN = REFUSED; parent MAX = REFUSED
            """);
    }

    private static void entries(Story story) {
        story.section("Promise 17");
        story.says("The ENTRIES of a scope", FAMILY_AND_HEAPLESS, """
            entries 2 = 3; entries 3 = 1; entries 4 = 1; entries 5 = 0; turn 0 2; entries 2 = 3; turn 0 0; entries 2 = 3
            enter 0 2 = 4; entries 2 = 4; leave 0; entries 2 = 3; leave 0; leave 0; leave 0; entries 3 = 0
            entries 2 = 3
            leave 0; entries 2 = 2; leave 2; entries 2 = 1
            """);
        story.says("the HEAP or IMMORTAL: REFUSED", FAMILY, """
            entries 0 = REFUSED; entries 1 = REFUSED; entries 6 = REFUSED; entries 9 = REFUSED; entries 10 = REFUSED
            entries -1 = REFUSED; entries MIN = REFUSED; entries MAX = REFUSED
            """);
    }

    private static void view(Story story) {
        story.section("Promise 18");
        String area = "The area of the i-th step of the thread's VIEW, the TOP being 0";
        story.says(area, FAMILY_AND_HEAPLESS, """
            view 0 0 = 3; view 0 1 = 2; view 0 2 = 0; view 1 0 = 4; view 1 1 = 2; view 1 2 = 0; view 2 0 = 2
            view 2 1 = 1
            view 3 0 = REFUSED; view -1 0 = REFUSED; view 4 0 = REFUSED; view MIN 0 = REFUSED; view MAX 0 = REFUSED
            """);
        story.says(area, FAMILY, """
            turn 0 2; view 0 0 = 2; view 0 1 = 0; turn 0 1; view 0 0 = 1; enter 0 5; view 0 0 = 5
            view 0 1 = 1; view 0 2 = REFUSED
            """);
        String many = "there are not so many: REFUSED";
        story.says(many, FAMILY_AND_HEAPLESS, """
            view 0 3 = REFUSED; view 0 4 = REFUSED; view 0 11 = REFUSED; view 0 12 = REFUSED; view 0 MAX = REFUSED
            view 0 -1 = REFUSED; view 0 MIN = REFUSED; view 2 2 = REFUSED; turn 0 0; view 0 0 = 0; view 0 1 = REFUSED
            """);
        story.says(many, TermsCases.LADDER, "turn 0 9; turn 0 9; turn 0 9 = 12", """
            view 0 0 = 9; view 0 7 = 2; view 0 8 = 0; view 0 9 = REFUSED; view 0 10 = REFUSED; view 0 11 = REFUSED
            view 0 12 = REFUSED; view 0 13 = REFUSED
            """);
    }

    private static void count(Story story) {
        story.section("Promise 19");
        story.says("0: OBJECTS, 1: areas, 2: begun threads", FAMILY_AND_HEAPLESS, """
            count 0 = 5; make 0 0; count 0 = 6; make 2 3; count 0 = 7; leave 0; count 0 = 5; collect = 1; count 0 = 4
            """);
        story.says("1: areas", "new 9 9; count 1 = 2", TermsCases.rows(3, 10, i -> "scope 5; count 1 = " + i),
            "scope 5 = FULL; count 1 = 10; begin 0 plain; enter 0 2; count 1 = 10; leave 0; count 1 = 10");
        story.says("2: begun threads", """
            new 9 9; count 2 = 0; begin 3 heapless; count 2 = 1; begin 0 plain; count 2 = 2; begin 1 plain; count 2 = 3
            begin 2 plain; count 2 = 4; turn 2 1; count 2 = 4; leave 2; count 2 = 4; leave 2; count 2 = 3
            leave 3; count 2 = 2
            leave 0; leave 1; count 2 = 0
            """);
        story.says("3: HEAP OBJECTS that are KEPT now", FAMILY, """
            count 3 = 0; put 0 3 0 0; count 3 = 1; assign 0 1 0; count 3 = 1; assign 0 2 1; count 3 = 1
            put 0 3 0 null; count 3 = 1; assign 0 1 null; count 3 = 0
            areaOf 0 = 0  # to be counted is not to be collected
            put 0 3 1 0; count 3 = 1; leave 0; count 3 = 0; count 0 = 4
            """);
        story.says("4 .. 7: the OBJECT in static what - 4 or NULL", FAMILY, """
            count 4 = NULL; count 5 = NULL; count 6 = NULL; count 7 = NULL; assign 0 0 0; count 4 = 0; count 5 = NULL
            assign 0 1 1; count 5 = 1; assign 0 2 0; count 6 = 0; assign 0 3 1; count 7 = 1; count 4 = 0; count 5 = 1
            assign 0 0 null; count 4 = NULL; count 5 = 1; collect = 0; count 6 = 0  # the static keeps it
            """);
        story.says("Else REFUSED", FAMILY, """
            count -1 = REFUSED; count 8 = REFUSED; count 9 = REFUSED; count -4 = REFUSED
            count MIN = REFUSED; count MAX = REFUSED
            """);
    }
}

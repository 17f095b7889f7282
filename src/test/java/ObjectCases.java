/** The promises 7 to 13: what is made, what is stored, and what is collected. */
final class ObjectCases {
    private static final String FAMILY = TermsCases.FAMILY;
    private static final String FAMILY_AND_HEAPLESS = TermsCases.FAMILY_AND_HEAPLESS;

    private ObjectCases() {
    }

    static void tell(Story story) {
        make(story);
        makeIsFull(story);
        put(story);
        putIsNotDone(story);
        get(story);
        hang(story);
        portal(story);
        assign(story);
        collect(story);
    }

    private static void make(Story story) {
        story.section("Promise 7");
        String made = "Makes an OBJECT with so many fields, 0 .. 4, in the CURRENT area: its number";
        for (int fields = 0; fields <= 4; fields++) {
            int count = fields;
            story.says(made, "new 9 9; begin 0 plain; make 0 " + fields + " = 0",
                "areaOf 0 = 0; room 0 = " + (8 - fields),
                TermsCases.rows(0, 4, i -> "get 0 0 " + i + " = " + (i < count ? "NULL" : "REFUSED")));
        }
        story.says(made, """
            new 9 9; begin 0 plain; make 0 -1 = REFUSED; make 0 5 = REFUSED; make 0 MIN = REFUSED; make 0 MAX = REFUSED
            make 1 0 = REFUSED; make -1 0 = REFUSED; make 4 0 = REFUSED; count 0 = 0; room 0 = 9; make 0 4 = 0
            """);
        story.says(made, """
            new 9 9; scope 9; begin 0 plain; begin 1 heapless; make 1 1 = 0; areaOf 0 = 1; make 0 1 = 1; areaOf 1 = 0
            enter 0 2; make 0 1 = 2; areaOf 2 = 2; turn 0 1; make 0 0 = 3; areaOf 3 = 1; turn 0 0
            make 0 0 = 4; areaOf 4 = 0
            leave 0; leave 0; turn 0 2; make 0 0 = 5; areaOf 5 = 2; room 0 = 6; room 1 = 6; room 2 = 6
            """);
    }

    private static void makeIsFull(Story story) {
        String full = "The area has no room, or there are 40 OBJECTS: FULL";
        story.says(full, """
            new 6 5; scope 4; begin 0 plain; make 0 2 = 0; make 0 3 = FULL; make 0 4 = FULL; make 0 1 = 1
            make 0 1 = FULL
            make 0 0 = 2; make 0 0 = FULL; room 0 = 0; turn 0 1; make 0 4 = 3; make 0 0 = FULL; room 1 = 0
            enter 0 2; make 0 4 = FULL; make 0 3 = 4; make 0 0 = FULL; room 2 = 0; count 0 = 5
            """);
        story.says(full, """
            new 4 5; scope 4; begin 0 plain; make 0 3 = 0; make 0 0 = FULL; collect = 1; make 0 3 = 0; make 0 0 = FULL
            enter 0 2; make 0 3 = 1; make 0 0 = FULL; leave 0; enter 0 2; make 0 3 = 1; make 0 0 = FULL  # room again
            """);
        String forty = "new 60 60; scope 9; scope 9; begin 0 plain\n" + TermsCases.rows(0, 29, i -> "make 0 0 = " + i)
            + "turn 0 1\n" + TermsCases.rows(30, 34, i -> "make 0 0 = " + i)
            + "enter 0 2\n" + TermsCases.rows(35, 38, i -> "make 0 0 = " + i);
        story.says(full, forty, """
            make 0 0 = 39; count 0 = 40; make 0 0 = FULL; make 0 4 = FULL; room 2 = 4; make 0 5 = REFUSED
            enter 0 3; make 0 0 = FULL; turn 0 1; make 0 0 = FULL; turn 0 0; make 0 0 = FULL; count 0 = 40
            collect = 30; make 0 4 = 0
            """);
        story.says(full, forty, """
            make 0 4 = 39; make 0 0 = FULL; leave 0; make 0 0 = 35; count 0 = 36  # those in scope 2 are gone
            """);
    }

    private static void put(Story story) {
        story.section("Promise 8");
        String sets = "Sets the field, 0 .. 3, of an OBJECT to an OBJECT or null";
        story.says(sets, """
            new 30 9; begin 0 plain; make 0 4 = 0; make 0 0 = 1; make 0 0 = 2
            put 0 0 0 1 = OK; get 0 0 0 = 1; get 0 0 1 = NULL; put 0 0 3 2 = OK; get 0 0 3 = 2; get 0 0 2 = NULL
            put 0 0 1 0 = OK; get 0 0 1 = 0; put 0 0 2 1 = OK; get 0 0 2 = 1; get 0 0 0 = 1; get 0 0 3 = 2
            put 0 0 0 2 = OK; get 0 0 0 = 2; put 0 0 0 2 = OK; get 0 0 0 = 2  # another one, the same one
            put 0 0 0 null = OK; get 0 0 0 = NULL; put 0 0 0 null = OK; get 0 0 0 = NULL; get 0 0 1 = 0
            """);
        story.says(sets, """
            new 30 9; begin 0 plain; make 0 4 = 0; put 0 0 4 0 = REFUSED; put 0 0 -1 0 = REFUSED
            put 0 0 MIN 0 = REFUSED
            put 0 0 MAX 0 = REFUSED; put 0 0 4 null = REFUSED; put 0 0 -1 null = REFUSED; put 0 0 3 0 = OK
            """);
        story.says(sets, """
            new 30 9; begin 0 plain; make 0 1 = 0; make 0 1 = 1; put 0 2 0 0 = REFUSED; put 0 -1 0 0 = REFUSED
            put 0 40 0 0 = REFUSED; put 0 0 0 2 = REFUSED; put 0 0 0 -2 = REFUSED; put 0 0 0 40 = REFUSED
            put 1 0 0 0 = REFUSED; put -1 0 0 0 = REFUSED; put 4 0 0 0 = REFUSED
            put 0 0 0 1; collect = 2; put 0 0 0 1 = REFUSED; put 0 1 0 null = REFUSED  # they are gone
            """);
        story.says("Else OK", FAMILY_AND_HEAPLESS, """
            put 0 3 0 2 = OK; put 1 2 0 2 = OK; put 2 2 1 1 = OK; get 0 3 0 = 2; get 2 2 0 = 2; get 1 2 1 = 1
            put 2 1 0 1 = OK; get 0 1 0 = 1; put 0 1 0 0 = OK; get 0 1 0 = 0; put 2 1 0 null = OK; get 0 1 0 = NULL
            """);
    }

    private static void putIsNotDone(Story story) {
        String noField = "The OBJECT has no such field: REFUSED";
        story.says(noField, """
            new 60 9; begin 0 plain; make 0 0 = 0; make 0 1 = 1; make 0 2 = 2; make 0 3 = 3; make 0 4 = 4
            put 0 0 0 4 = REFUSED; put 0 0 0 null = REFUSED; put 0 1 1 4 = REFUSED; put 0 2 2 4 = REFUSED
            put 0 3 3 4 = REFUSED; put 0 4 4 4 = REFUSED; put 0 1 3 null = REFUSED
            put 0 1 0 4 = OK; put 0 2 1 4 = OK; put 0 3 2 4 = OK; put 0 4 3 4 = OK
            """);
        story.says(noField, """
            new 60 9; begin 0 plain; make 0 4 = 0; put 0 0 3 0; collect = 1; make 0 2 = 0
            put 0 0 2 0 = REFUSED; put 0 0 3 0 = REFUSED; get 0 0 3 = REFUSED  # the number had more fields before
            """);
        String unseen = "The thread does not SEE the OBJECT or the target: UNSEEN";
        story.says(unseen, FAMILY_AND_HEAPLESS, """
            put 0 4 0 0 = UNSEEN; put 0 4 0 null = UNSEEN; put 0 4 0 4 = UNSEEN; put 2 0 0 1 = UNSEEN
            put 2 0 0 null = UNSEEN; put 2 0 0 0 = UNSEEN; put 1 3 0 2 = UNSEEN; put 2 3 0 2 = UNSEEN  # the OBJECT
            put 0 3 0 4 = UNSEEN; put 0 0 0 4 = UNSEEN; put 0 1 0 4 = UNSEEN; put 2 1 0 0 = UNSEEN; put 2 2 0 0 = UNSEEN
            put 2 2 0 3 = UNSEEN; put 1 2 0 3 = UNSEEN  # the target, where it would be ILLEGAL too
            """);
        story.says(unseen, FAMILY, """
            turn 0 2; put 0 3 0 2 = UNSEEN; put 0 2 0 3 = UNSEEN; put 0 2 0 2 = OK; turn 0 1; put 0 2 0 1 = UNSEEN
            put 0 1 0 2 = UNSEEN; put 0 1 0 0 = OK; leave 0; leave 0; put 0 3 0 2 = OK
            """);
        String illegal = "The OBJECT's area MAY not POINT TO the target: ILLEGAL";
        story.says(illegal, FAMILY, """
            put 0 0 0 2 = ILLEGAL; put 0 0 0 3 = ILLEGAL; put 0 1 0 2 = ILLEGAL; put 0 1 0 3 = ILLEGAL
            put 0 2 0 3 = ILLEGAL
            put 1 0 0 4 = ILLEGAL; put 1 1 0 4 = ILLEGAL; put 1 2 0 4 = ILLEGAL
            put 0 2 0 2 = OK; put 0 2 0 1 = OK; put 0 2 0 0 = OK; put 0 3 0 2 = OK; put 0 3 0 null = OK
            put 0 0 0 null = OK
            """);
        story.says(illegal, """
            new 9 9; scope 9; scope 9; begin 0 heapless; make 0 1 = 0; enter 0 2; make 0 1 = 1; enter 0 3; make 0 1 = 2
            put 0 0 0 1 = ILLEGAL; put 0 0 0 2 = ILLEGAL; put 0 1 0 2 = ILLEGAL; put 0 2 0 1 = OK; put 0 1 0 0 = OK
            get 0 0 0 = NULL; get 0 1 0 = 0; get 0 2 0 = 1
            """);
    }

    private static void get(Story story) {
        story.section("Promise 9");
        story.says("The OBJECT in the field", FAMILY, """
            put 0 3 0 2; put 0 3 1 0; put 0 2 1 1; get 0 3 0 = 2; get 0 3 1 = 0; get 0 2 1 = 1; get 1 2 1 = 1
            get 2 2 1 = REFUSED; get -1 2 1 = REFUSED; get 4 2 1 = REFUSED; get 0 5 0 = REFUSED; get 0 -1 0 = REFUSED
            get 0 40 0 = REFUSED; get 0 MAX 0 = REFUSED
            """);
        story.says("There is no such field: REFUSED", FAMILY, """
            get 0 3 1 = NULL; get 0 3 2 = REFUSED; get 0 3 3 = REFUSED; get 0 3 4 = REFUSED; get 0 3 -1 = REFUSED
            get 0 3 MIN = REFUSED; get 0 3 MAX = REFUSED; get 0 4 2 = REFUSED  # of one that is not seen too
            make 0 0 = 5; get 0 5 0 = REFUSED; make 0 4 = 6; get 0 6 3 = NULL; get 0 6 4 = REFUSED
            """);
        story.says("The thread does not SEE the OBJECT: UNSEEN", FAMILY_AND_HEAPLESS, """
            put 0 3 0 0; put 0 0 0 0; get 1 3 0 = UNSEEN; get 1 3 1 = UNSEEN; get 2 3 0 = UNSEEN; get 2 0 0 = UNSEEN
            get 2 0 1 = UNSEEN; get 0 3 0 = 0; turn 0 2; get 0 3 0 = UNSEEN; get 0 3 1 = UNSEEN; leave 0; get 0 3 0 = 0
            """);
        story.says("It holds null: NULL", FAMILY_AND_HEAPLESS, """
            get 0 3 0 = NULL; get 0 2 1 = NULL; get 0 1 0 = NULL; get 0 0 0 = NULL; get 2 2 0 = NULL; get 2 1 1 = NULL
            put 0 3 0 3; get 0 3 0 = 3; put 0 3 0 null; get 0 3 0 = NULL
            """);
        String holds = "The thread does not SEE what it holds: UNSEEN";
        story.says(holds, FAMILY_AND_HEAPLESS, """
            put 0 2 0 0; put 0 1 1 0; put 0 2 1 1; get 2 2 0 = UNSEEN; get 2 1 1 = UNSEEN; get 2 2 1 = 1
            get 0 2 0 = 0; get 0 1 1 = 0; put 2 2 0 null; get 2 2 0 = NULL; get 0 2 0 = NULL
            """);
        story.says(holds, FAMILY_AND_HEAPLESS, """
            put 0 3 0 2; turn 2 2; enter 2 5; make 2 1 = 5; put 2 5 0 2; turn 2 1; get 2 5 0 = UNSEEN; leave 2
            get 2 5 0 = 2; get 0 3 0 = 2; turn 0 1; get 0 3 0 = UNSEEN  # with the OBJECT itself out of VIEW
            """);
    }

    private static void hang(Story story) {
        story.section("Promise 10");
        String sets = "Sets the portal of a scope to an OBJECT or null";
        story.says(sets, FAMILY_AND_HEAPLESS, """
            hang 0 3 3 = OK; portal 0 3 = 3; portal 0 2 = NULL; hang 0 2 2 = OK; portal 0 2 = 2
            portal 2 2 = 2; portal 0 3 = 3
            make 0 0 = 5; hang 0 3 5 = OK; portal 0 3 = 5; hang 0 3 null = OK; portal 0 3 = NULL; portal 1 2 = 2
            hang 0 3 null = OK; portal 0 3 = NULL; hang 2 2 null = OK; portal 1 2 = NULL  # none at first, none again
            """);
        story.says("Else OK", FAMILY_AND_HEAPLESS, """
            hang 2 2 2 = OK; portal 0 2 = 2; hang 1 4 4 = OK; portal 1 4 = 4; turn 0 2; hang 0 2 2 = OK
            hang 0 2 null = OK
            """);
        story.says("The area is no scope: REFUSED", FAMILY, """
            hang 0 0 0 = REFUSED; hang 0 1 1 = REFUSED; hang 0 0 null = REFUSED; hang 0 1 null = REFUSED
            hang 0 6 3 = REFUSED
            hang 0 6 null = REFUSED; hang 0 -1 3 = REFUSED; hang 0 10 3 = REFUSED; hang 0 MIN 3 = REFUSED
            hang 0 MAX 3 = REFUSED
            hang 0 3 5 = REFUSED; hang 0 3 -2 = REFUSED; hang 0 3 40 = REFUSED; hang 2 3 3 = REFUSED
            hang -1 3 3 = REFUSED
            hang 4 3 3 = REFUSED
            """);
        String scopeUnseen = "The scope is not IN VIEW";
        story.says(scopeUnseen, FAMILY, """
            hang 0 4 4 = UNSEEN; hang 0 4 3 = UNSEEN; hang 0 4 0 = UNSEEN; hang 0 4 null = UNSEEN; hang 0 5 0 = UNSEEN
            hang 0 5 null = UNSEEN; hang 0 3 3; turn 0 2; hang 0 3 null = UNSEEN; hang 0 3 2 = UNSEEN; hang 0 2 2 = OK
            turn 0 0; hang 0 2 null = UNSEEN; hang 0 2 2 = UNSEEN; leave 0; leave 0; portal 0 3 = 3; portal 0 2 = 2
            """);
        String objectUnseen = "or the thread does not SEE the OBJECT: UNSEEN";
        story.says(objectUnseen, FAMILY_AND_HEAPLESS, """
            hang 0 3 4 = UNSEEN; hang 0 2 4 = UNSEEN; hang 1 2 3 = UNSEEN; hang 2 2 0 = UNSEEN; hang 2 2 3 = UNSEEN
            hang 0 2 0 = ILLEGAL; portal 0 2 = NULL; portal 0 3 = NULL
            """);
        story.says("The OBJECT is not in the scope: ILLEGAL", FAMILY, """
            hang 0 3 0 = ILLEGAL; hang 0 3 1 = ILLEGAL; hang 0 3 2 = ILLEGAL; hang 0 2 3 = ILLEGAL; hang 0 2 1 = ILLEGAL
            hang 0 2 0 = ILLEGAL; hang 1 2 4 = ILLEGAL; hang 1 4 2 = ILLEGAL; hang 0 3 3 = OK
            hang 0 3 2 = ILLEGAL; portal 0 3 = 3
            """);
    }

    private static void portal(Story story) {
        story.section("Promise 11");
        story.says("The portal of a scope", FAMILY_AND_HEAPLESS, """
            hang 0 3 3; hang 1 2 2; portal 0 3 = 3; portal 0 2 = 2; portal 1 2 = 2; portal 2 2 = 2; turn 0 2
            portal 0 2 = 2
            leave 0; leave 0; leave 0; portal 1 2 = 2; leave 0; portal 1 2 = 2  # whoever has hung it
            """);
        story.says("The area is no scope: REFUSED", FAMILY, """
            portal 0 0 = REFUSED; portal 0 1 = REFUSED; portal 0 6 = REFUSED; portal 0 9 = REFUSED
            portal 0 10 = REFUSED
            portal 0 -1 = REFUSED; portal 0 MIN = REFUSED; portal 0 MAX = REFUSED; portal 2 2 = REFUSED
            portal -1 2 = REFUSED
            portal 4 2 = REFUSED
            """);
        story.says("The scope is not IN VIEW: UNSEEN", FAMILY, """
            hang 0 3 3; hang 0 2 2; portal 0 4 = UNSEEN; portal 0 5 = UNSEEN; portal 1 3 = UNSEEN; turn 0 2
            portal 0 3 = UNSEEN
            turn 0 1; portal 0 2 = UNSEEN; turn 1 0; portal 1 2 = UNSEEN; portal 1 4 = UNSEEN; leave 1; portal 1 2 = 2
            """);
        story.says("None: NULL", FAMILY, """
            portal 0 3 = NULL; portal 0 2 = NULL; hang 0 3 3; hang 0 2 2; hang 0 3 null; portal 0 3 = NULL
            portal 0 2 = 2
            hang 0 3 3; leave 0; enter 0 3; portal 0 3 = NULL; portal 0 2 = 2  # it has been EMPTIED
            """);
    }

    private static void assign(Story story) {
        story.section("Promise 12");
        String sets = "Sets static k 0 .. 3 to an OBJECT or null";
        story.says(sets, FAMILY, """
            assign 0 0 0 = OK; assign 0 3 1 = OK; count 4 = 0; count 5 = NULL; count 6 = NULL; count 7 = 1
            assign 1 1 1 = OK; assign 0 2 0 = OK; count 5 = 1; count 6 = 0; assign 0 0 1 = OK; count 4 = 1; count 7 = 1
            assign 0 3 null = OK; count 7 = NULL; assign 0 3 null = OK; count 7 = NULL; count 4 = 1
            """);
        story.says(sets, FAMILY, """
            assign 0 -1 0 = REFUSED; assign 0 4 0 = REFUSED; assign 0 MIN 0 = REFUSED; assign 0 MAX 0 = REFUSED
            assign 0 -1 null = REFUSED; assign 0 4 null = REFUSED; assign 0 0 5 = REFUSED; assign 0 0 -2 = REFUSED
            assign 0 0 40 = REFUSED; assign 2 0 0 = REFUSED; assign -1 0 0 = REFUSED; assign 4 0 0 = REFUSED
            assign 3 0 null = REFUSED
            """);
        String unseen = "The thread does not SEE the OBJECT: UNSEEN";
        story.says(unseen, FAMILY_AND_HEAPLESS, """
            assign 0 0 4 = UNSEEN; assign 1 0 3 = UNSEEN; assign 2 0 0 = UNSEEN; assign 2 0 3 = UNSEEN; assign 0 0 0
            assign 2 0 0 = UNSEEN; count 4 = 0; turn 0 1; assign 0 1 2 = UNSEEN; assign 0 1 3 = UNSEEN
            assign 0 1 0 = OK
            """);
        story.says("It is in a scope: ILLEGAL", FAMILY_AND_HEAPLESS, """
            assign 0 0 2 = ILLEGAL; assign 0 0 3 = ILLEGAL; assign 1 0 4 = ILLEGAL; assign 2 0 2 = ILLEGAL
            count 4 = NULL
            assign 0 0 1; assign 0 0 2 = ILLEGAL; count 4 = 1
            """);
        story.says("Else OK", FAMILY_AND_HEAPLESS, """
            assign 2 1 1 = OK; count 5 = 1; assign 0 0 0; assign 2 0 null = OK; count 4 = NULL  # a heapless thread may
            """);
    }

    private static void collect(Story story) {
        story.section("Promise 13");
        String gone = "The HEAP OBJECTS that are not KEPT are not there any more";
        story.says(gone, FAMILY, """
            turn 0 0; make 0 4 = 5; make 0 1 = 6; put 0 6 0 5; room 0 = 20; collect = 3; room 0 = 30; count 0 = 4
            areaOf 0 = REFUSED; areaOf 5 = REFUSED; areaOf 6 = REFUSED; get 0 5 0 = REFUSED; put 0 5 0 null = REFUSED
            areaOf 1 = 1; areaOf 2 = 2; areaOf 3 = 3; areaOf 4 = 4; room 1 = 27; room 2 = 17
            room 3 = 17  # no HEAP OBJECTS
            make 0 1 = 0; get 0 0 0 = NULL; get 0 0 1 = REFUSED
            """);
        story.says(gone, FAMILY, """
            turn 0 0; make 0 2 = 5; make 0 2 = 6; make 0 2 = 7; make 0 2 = 8; put 0 1 0 0; put 0 0 1 5; put 0 5 1 0
            assign 0 1 6; put 0 7 0 8; put 0 8 0 0; count 3 = 3; collect = 2; areaOf 7 = REFUSED; areaOf 8 = REFUSED
            get 0 0 1 = 5; get 0 5 1 = 0; get 0 1 0 = 0; count 5 = 6; count 3 = 3
            room 0 = 21  # what is KEPT is as it was
            """);
        story.says(gone, "new 60 9; begin 0 plain", TermsCases.rows(0, 39, i -> "make 0 0 = " + i), """
            collect = 40; count 0 = 0; room 0 = 60; make 0 0 = 0
            """);
        story.says(gone, """
            new 9 9; begin 0 plain; make 0 1 = 0; make 0 1 = 1; assign 0 0 1; collect = 1; make 0 1 = 0
            put 0 1 0 0; collect = 0
            assign 0 0 null; count 3 = 0; areaOf 0 = 0; areaOf 1 = 0; collect = 2  # not before they are collected
            """);
        String many = "How many these were";
        story.says(many, """
            new 9 9; collect = 0; begin 0 plain; collect = 0; make 0 0; collect = 1; collect = 0; count 2 = 1
            """);
        story.says(many, """
            new 9 9; scope 9; begin 0 heapless; make 0 0; enter 0 2; make 0 0; collect = 0; count 0 = 2; begin 1 plain
            make 1 0; make 1 1; collect = 2; count 0 = 2; leave 0; collect = 0; count 0 = 1; leave 0
            leave 1; collect = 0
            """);
    }
}

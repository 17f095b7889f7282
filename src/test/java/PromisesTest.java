import java.util.function.IntSupplier;

/** Each promise of the document: ordinary inputs, the edges it names, and wrong inputs. */
public final class PromisesTest {
    private static final int OK = 0;
    private static final int REFUSED = -1;
    private static final int FULL = -2;
    private static final int CYCLE = -3;
    private static final int UNSEEN = -4;
    private static final int ILLEGAL = -5;
    private static final int NULL = -6;
    private static final boolean PLAIN = false;
    private static final boolean HEAPLESS = true;
    private static final int[] WILD = {Integer.MIN_VALUE, Integer.MIN_VALUE + 1, -1000, 1000, Integer.MAX_VALUE};

    private static final Checks CHECKS = new Checks();
    private static ScopedMemory m;

    public static void main(String[] args) {
        newObject();
        scope();
        begin();
        enter();
        enterByParent();
        enterFull();
        turn();
        turnUnderStep();
        turnFull();
        leave();
        leaveEmpties();
        make();
        makeFull();
        put();
        putBetweenScopes();
        putUnseen();
        get();
        hang();
        portal();
        assign();
        collect();
        collectReach();
        areaOf();
        room();
        parent();
        entries();
        view();
        count();
        wildNumbers();
        CHECKS.end();
    }

    private static void fresh(String part, int heap, int immortal) {
        CHECKS.part(part);
        m = new ScopedMemory(heap, immortal);
    }

    private static void due(String call, int got, int want) {
        CHECKS.due(call, got, want);
    }

    /** A call that is due to answer below 0 and to change nothing. */
    private static void no(String call, int want, IntSupplier run) {
        String before = Probe.state(m);
        CHECKS.due(call, run.getAsInt(), want);
        CHECKS.same("the state after " + call, Probe.state(m), before);
    }

    private static void makeScopes(int... sizes) {
        for (int size : sizes) {
            m.scope(size);
        }
    }

    private static void newObject() {
        int[][] clamped = {
            {Integer.MIN_VALUE, 4}, {-1, 4}, {0, 4}, {3, 4}, {4, 4}, {5, 5}, {30, 30}, {59, 59}, {60, 60}, {61, 60},
            {Integer.MAX_VALUE, 60},
        };
        for (int[] pair : clamped) {
            fresh("1 heap size " + pair[0], pair[0], 17);
            due("room(0)", m.room(0), pair[1]);
            due("room(1)", m.room(1), 17);
            fresh("1 immortal size " + pair[0], 17, pair[0]);
            due("room(0)", m.room(0), 17);
            due("room(1)", m.room(1), pair[1]);
        }
        fresh("1 nothing yet", 10, 10);
        due("count(0)", m.count(0), 0);
        due("count(1)", m.count(1), 2);
        due("count(2)", m.count(2), 0);
        due("count(3)", m.count(3), 0);
        for (int k = 0; k < 4; k++) {
            due("count(4 + " + k + ")", m.count(4 + k), NULL);
            due("view(" + k + ", 0)", m.view(k, 0), REFUSED);
            due("leave(" + k + ")", m.leave(k), REFUSED);
        }
        due("room(2)", m.room(2), REFUSED);
        for (int object = 0; object < 40; object++) {
            due("areaOf(" + object + ")", m.areaOf(object), REFUSED);
        }
        fresh("1 two objects share nothing", 10, 10);
        ScopedMemory other = new ScopedMemory(10, 10);
        String untouched = Probe.state(other);
        m.scope(5);
        m.begin(0, PLAIN);
        m.make(0, 2);
        m.assign(0, 0, 0);
        CHECKS.same("the other object's state", Probe.state(other), untouched);
    }

    private static void scope() {
        fresh("2 scope", 10, 10);
        no("scope(0)", REFUSED, () -> m.scope(0));
        no("scope(-1)", REFUSED, () -> m.scope(-1));
        no("scope(41)", REFUSED, () -> m.scope(41));
        due("scope(1)", m.scope(1), 2);
        due("scope(40)", m.scope(40), 3);
        for (int number = 4; number <= 9; number++) {
            due("scope(" + number + ")", m.scope(number), number);
        }
        due("room(2)", m.room(2), 1);
        due("room(3)", m.room(3), 40);
        due("room(9)", m.room(9), 9);
        no("a ninth scope(5)", FULL, () -> m.scope(5));
        no("a ninth scope(0): numbers first", REFUSED, () -> m.scope(0));
        no("a ninth scope(41): numbers first", REFUSED, () -> m.scope(41));
    }

    private static void begin() {
        fresh("3 begin", 10, 10);
        no("begin(-1)", REFUSED, () -> m.begin(-1, PLAIN));
        no("begin(4)", REFUSED, () -> m.begin(4, HEAPLESS));
        due("begin(0, plain)", m.begin(0, PLAIN), OK);
        due("begin(3, heapless)", m.begin(3, HEAPLESS), OK);
        due("view(0, 0)", m.view(0, 0), 0);
        due("view(3, 0)", m.view(3, 0), 1);
        due("view(0, 1)", m.view(0, 1), REFUSED);
        due("view(3, 1)", m.view(3, 1), REFUSED);
        due("count(2)", m.count(2), 2);
        no("begin(0) again", REFUSED, () -> m.begin(0, PLAIN));
        no("begin(0, heapless) again", REFUSED, () -> m.begin(0, HEAPLESS));
        no("begin(3, plain) again", REFUSED, () -> m.begin(3, PLAIN));
        due("leave(0)", m.leave(0), 0);
        due("begin(0, heapless) once idle", m.begin(0, HEAPLESS), OK);
        due("view(0, 0) now heapless", m.view(0, 0), 1);
        no("turn(0, 0) now heapless", ILLEGAL, () -> m.turn(0, 0));
        due("leave(3)", m.leave(3), 0);
        due("begin(3, plain) once idle", m.begin(3, PLAIN), OK);
        due("turn(3, 0) now plain", m.turn(3, 0), 2);
    }

    private static void enter() {
        fresh("4 enter", 10, 10);
        makeScopes(5, 5, 5);
        no("enter(0, 2) idle", REFUSED, () -> m.enter(0, 2));
        m.begin(0, PLAIN);
        m.begin(1, HEAPLESS);
        no("enter(-1, 2)", REFUSED, () -> m.enter(-1, 2));
        no("enter(4, 2)", REFUSED, () -> m.enter(4, 2));
        no("enter(0, 0)", REFUSED, () -> m.enter(0, 0));
        no("enter(0, 1)", REFUSED, () -> m.enter(0, 1));
        no("enter(0, -1)", REFUSED, () -> m.enter(0, -1));
        no("enter(0, 5) not made", REFUSED, () -> m.enter(0, 5));
        no("enter(0, 10)", REFUSED, () -> m.enter(0, 10));
        due("enter(0, 2)", m.enter(0, 2), 1);
        due("enter(1, 2)", m.enter(1, 2), 2);
        due("parent(2)", m.parent(2), 0);
        due("view(0, 0)", m.view(0, 0), 2);
        due("view(0, 1)", m.view(0, 1), 0);
        due("view(1, 1)", m.view(1, 1), 1);
        no("enter(0, 2) in view", CYCLE, () -> m.enter(0, 2));
        due("enter(0, 3)", m.enter(0, 3), 1);
        due("parent(3)", m.parent(3), 2);
        no("enter(0, 2) deeper in view", CYCLE, () -> m.enter(0, 2));
        due("view(0, 2)", m.view(0, 2), 0);
    }

    private static void enterByParent() {
        fresh("4 enter and the parent", 10, 10);
        makeScopes(5, 5, 5, 5);
        m.begin(0, PLAIN);
        m.begin(1, PLAIN);
        m.begin(2, HEAPLESS);
        m.enter(0, 2);
        m.enter(0, 3);
        no("enter(1, 3): its parent is 2, not the root", CYCLE, () -> m.enter(1, 3));
        due("enter(1, 4)", m.enter(1, 4), 1);
        no("enter(1, 2): its parent is the root, not 4", CYCLE, () -> m.enter(1, 2));
        no("enter(1, 3): its parent is 2, not 4", CYCLE, () -> m.enter(1, 3));
        no("enter(0, 4): its parent is the root, not 3", CYCLE, () -> m.enter(0, 4));
        due("turn(1, 1)", m.turn(1, 1), 3);
        due("enter(1, 2) from IMMORTAL", m.enter(1, 2), 2);
        due("enter(1, 3) from 2", m.enter(1, 3), 2);
        due("turn(0, 0)", m.turn(0, 0), 4);
        due("enter(0, 4) from the HEAP", m.enter(0, 4), 2);
        due("enter(2, 2)", m.enter(2, 2), 3);
        due("turn(2, 2)", m.turn(2, 2), 3);
        due("enter(2, 3): the NEAREST is met at a turn", m.enter(2, 3), 3);
        due("enter(2, 5)", m.enter(2, 5), 1);
        due("parent(5)", m.parent(5), 3);

        fresh("4 a scope that is in the row but not in view", 10, 10);
        makeScopes(5, 5);
        m.begin(0, PLAIN);
        m.enter(0, 2);
        m.turn(0, 0);
        due("enter(0, 2) again, its parent being the root", m.enter(0, 2), 2);
        due("enter(0, 3)", m.enter(0, 3), 1);
        m.turn(0, 1);
        no("enter(0, 3), its parent being 2", CYCLE, () -> m.enter(0, 3));
        due("leave(0)", m.leave(0), 5);
        due("leave(0)", m.leave(0), 4);
        due("leave(0)", m.leave(0), 3);
        due("entries(2): left once of twice", m.entries(2), 1);
        due("leave(0)", m.leave(0), 2);
        due("leave(0)", m.leave(0), 1);
        due("entries(2)", m.entries(2), 0);
    }

    private static void enterFull() {
        fresh("4 enter with a full row", 10, 10);
        makeScopes(5, 5, 5);
        m.begin(0, PLAIN);
        m.begin(1, PLAIN);
        m.enter(1, 4);
        m.enter(1, 3);
        m.enter(0, 2);
        for (int steps = 3; steps <= 11; steps++) {
            due("turn(0, 2)", m.turn(0, 2), steps);
        }
        due("turn(0, 2) to the twelfth", m.turn(0, 2), 12);
        no("enter(0, 3): CYCLE before FULL", CYCLE, () -> m.enter(0, 3));
        no("enter(0, 2): CYCLE before FULL", CYCLE, () -> m.enter(0, 2));
        m.leave(1);
        no("enter(0, 3) with 12 steps", FULL, () -> m.enter(0, 3));
        no("enter(0, 5): numbers first", REFUSED, () -> m.enter(0, 5));
        due("leave(0)", m.leave(0), 11);
        due("enter(0, 3) to the twelfth", m.enter(0, 3), 1);
        due("parent(3)", m.parent(3), 2);
        due("leave(0)", m.leave(0), 11);
        due("parent(3)", m.parent(3), NULL);
    }

    private static void turn() {
        fresh("5 turn", 10, 10);
        makeScopes(5, 5);
        no("turn(0, 0) idle", REFUSED, () -> m.turn(0, 0));
        m.begin(0, PLAIN);
        m.begin(1, HEAPLESS);
        no("turn(-1, 0)", REFUSED, () -> m.turn(-1, 0));
        no("turn(4, 0)", REFUSED, () -> m.turn(4, 0));
        no("turn(0, -1)", REFUSED, () -> m.turn(0, -1));
        no("turn(0, 4) not made", REFUSED, () -> m.turn(0, 4));
        no("turn(0, 10)", REFUSED, () -> m.turn(0, 10));
        no("turn(0, 2) without entries", UNSEEN, () -> m.turn(0, 2));
        no("turn(1, 0) heapless", ILLEGAL, () -> m.turn(1, 0));
        due("turn(1, 1) heapless", m.turn(1, 1), 2);
        due("enter(0, 2)", m.enter(0, 2), 1);
        no("turn(1, 2): another thread's scope", UNSEEN, () -> m.turn(1, 2));
        due("turn(0, 0)", m.turn(0, 0), 3);
        due("view(0, 0)", m.view(0, 0), 0);
        due("view(0, 1)", m.view(0, 1), REFUSED);
        no("turn(0, 2): not in view from the HEAP", UNSEEN, () -> m.turn(0, 2));
        due("turn(0, 1)", m.turn(0, 1), 4);
        due("view(0, 0)", m.view(0, 0), 1);
        due("view(0, 1)", m.view(0, 1), REFUSED);
        due("leave(0)", m.leave(0), 3);
        due("leave(0)", m.leave(0), 2);
        due("turn(0, 2)", m.turn(0, 2), 3);
        due("entries(2): a turn is no entry", m.entries(2), 1);
    }

    private static void turnUnderStep() {
        fresh("5 the under-step of a turn", 10, 10);
        makeScopes(5, 5, 5, 5);
        m.begin(0, PLAIN);
        m.enter(0, 2);
        m.enter(0, 3);
        m.enter(0, 4);
        due("turn(0, 3)", m.turn(0, 3), 5);
        due("view(0, 0)", m.view(0, 0), 3);
        due("view(0, 1)", m.view(0, 1), 2);
        due("view(0, 2)", m.view(0, 2), 0);
        due("view(0, 3)", m.view(0, 3), REFUSED);
        no("turn(0, 4): above the turn", UNSEEN, () -> m.turn(0, 4));
        due("turn(0, 3) once more", m.turn(0, 3), 6);
        due("view(0, 1)", m.view(0, 1), 2);
        due("view(0, 2)", m.view(0, 2), 0);
        due("enter(0, 5) from the turn", m.enter(0, 5), 1);
        due("parent(5)", m.parent(5), 3);
        due("view(0, 0)", m.view(0, 0), 5);
        due("view(0, 1)", m.view(0, 1), 3);
        due("view(0, 2)", m.view(0, 2), 2);
        due("view(0, 3)", m.view(0, 3), 0);
        no("enter(0, 4): its parent is 3, not 5", CYCLE, () -> m.enter(0, 4));
        due("leave(0)", m.leave(0), 6);
        due("enter(0, 4): it is not in view and its parent is 3", m.enter(0, 4), 2);

        fresh("5 the first step from the TOP", 10, 10);
        makeScopes(5, 5);
        m.begin(0, PLAIN);
        m.enter(0, 2);
        m.turn(0, 1);
        due("enter(0, 2) on IMMORTAL", m.enter(0, 2), 2);
        due("view(0, 1)", m.view(0, 1), 1);
        due("enter(0, 3)", m.enter(0, 3), 1);
        due("turn(0, 2)", m.turn(0, 2), 6);
        due("view(0, 1): the later entry's under-step", m.view(0, 1), 1);
        due("view(0, 2)", m.view(0, 2), REFUSED);
    }

    private static void turnFull() {
        fresh("5 turn with a full row", 10, 10);
        makeScopes(5);
        m.begin(0, HEAPLESS);
        for (int steps = 2; steps <= 12; steps++) {
            due("turn(0, 1)", m.turn(0, 1), steps);
        }
        no("turn(0, 1) with 12 steps", FULL, () -> m.turn(0, 1));
        no("turn(0, 0): FULL is tested last", ILLEGAL, () -> m.turn(0, 0));
        no("turn(0, 2): FULL is tested last", UNSEEN, () -> m.turn(0, 2));
        no("turn(0, 3): numbers first", REFUSED, () -> m.turn(0, 3));
        m.leave(0);
        due("enter(0, 2) to the twelfth", m.enter(0, 2), 1);
        no("turn(0, 2) with 12 steps", FULL, () -> m.turn(0, 2));
    }

    private static void leave() {
        fresh("6 leave", 10, 10);
        makeScopes(5);
        no("leave(0) idle", REFUSED, () -> m.leave(0));
        no("leave(-1)", REFUSED, () -> m.leave(-1));
        no("leave(4)", REFUSED, () -> m.leave(4));
        m.begin(0, PLAIN);
        m.begin(1, PLAIN);
        m.enter(0, 2);
        m.enter(1, 2);
        m.make(0, 1);
        m.turn(0, 2);
        due("leave(0) of a turn", m.leave(0), 2);
        due("entries(2): a turn was no entry", m.entries(2), 2);
        due("leave(0) of an entry", m.leave(0), 1);
        due("entries(2)", m.entries(2), 1);
        due("areaOf(0): 1 is in there yet", m.areaOf(0), 2);
        due("view(0, 0)", m.view(0, 0), 0);
        due("leave(0) of the only step", m.leave(0), 0);
        due("count(2)", m.count(2), 1);
        no("leave(0) idle again", REFUSED, () -> m.leave(0));
        due("leave(1)", m.leave(1), 1);
        due("areaOf(0): the last one is gone", m.areaOf(0), REFUSED);
    }

    private static void leaveEmpties() {
        fresh("6 leave empties", 10, 10);
        makeScopes(6, 6);
        m.begin(0, PLAIN);
        due("make in the HEAP", m.make(0, 1), 0);
        m.enter(0, 2);
        due("make in 2", m.make(0, 2), 1);
        m.enter(0, 3);
        due("make in 3", m.make(0, 1), 2);
        due("make in 3", m.make(0, 0), 3);
        m.hang(0, 3, 2);
        m.hang(0, 2, 1);
        due("leave(0)", m.leave(0), 2);
        due("areaOf(2)", m.areaOf(2), REFUSED);
        due("areaOf(3)", m.areaOf(3), REFUSED);
        due("areaOf(1) stays", m.areaOf(1), 2);
        due("areaOf(0) stays", m.areaOf(0), 0);
        due("room(3)", m.room(3), 6);
        due("room(2)", m.room(2), 3);
        due("parent(3)", m.parent(3), NULL);
        due("portal(0, 2) stays", m.portal(0, 2), 1);
        due("count(0)", m.count(0), 2);
        m.turn(0, 0);
        due("enter(0, 3) elsewhere", m.enter(0, 3), 1);
        due("parent(3) is new", m.parent(3), 0);
        due("portal(0, 3) is gone", m.portal(0, 3), NULL);
        due("make in 3 gets a number again", m.make(0, 1), 2);
        due("get(0, 2, 0) is null again", m.get(0, 2, 0), NULL);

        fresh("6 a scope below one that is emptied keeps its own", 10, 10);
        makeScopes(6, 6);
        m.begin(0, PLAIN);
        m.begin(1, PLAIN);
        m.enter(0, 2);
        m.enter(1, 2);
        m.enter(1, 3);
        m.make(1, 0);
        m.leave(0);
        due("areaOf(0)", m.areaOf(0), 3);
        due("parent(3)", m.parent(3), 2);
        m.leave(1);
        due("entries(2)", m.entries(2), 1);
        due("parent(2)", m.parent(2), 0);
    }

    private static void make() {
        fresh("7 make", 20, 8);
        makeScopes(9);
        no("make(0, 0) idle", REFUSED, () -> m.make(0, 0));
        m.begin(0, PLAIN);
        no("make(-1, 0)", REFUSED, () -> m.make(-1, 0));
        no("make(4, 0)", REFUSED, () -> m.make(4, 0));
        no("make(0, -1)", REFUSED, () -> m.make(0, -1));
        no("make(0, 5)", REFUSED, () -> m.make(0, 5));
        for (int fields = 0; fields <= 4; fields++) {
            due("make(0, " + fields + ")", m.make(0, fields), fields);
            due("areaOf", m.areaOf(fields), 0);
            for (int field = 0; field < 4; field++) {
                due("get(0, " + fields + ", " + field + ")", m.get(0, fields, field), field < fields ? NULL : REFUSED);
            }
        }
        due("room(0)", m.room(0), 5);
        m.turn(0, 1);
        due("make in IMMORTAL", m.make(0, 3), 5);
        due("areaOf(5)", m.areaOf(5), 1);
        due("room(1)", m.room(1), 4);
        m.enter(0, 2);
        due("make in 2", m.make(0, 1), 6);
        due("areaOf(6)", m.areaOf(6), 2);
        due("room(2)", m.room(2), 7);
        m.turn(0, 2);
        due("make in 2 after a turn", m.make(0, 0), 7);
        due("areaOf(7)", m.areaOf(7), 2);
        m.leave(0);
        m.leave(0);
        m.leave(0);
        due("assign(0, 0, 1)", m.assign(0, 0, 1), OK);
        due("assign(0, 1, 3)", m.assign(0, 1, 3), OK);
        due("collect()", m.collect(), 3);
        due("the least free number", m.make(0, 0), 0);
        due("the next one", m.make(0, 0), 2);
        due("the next one", m.make(0, 0), 4);
        due("the next one", m.make(0, 0), 6);
    }

    private static void makeFull() {
        fresh("7 make with no room", 4, 5);
        makeScopes(1);
        m.begin(0, PLAIN);
        m.begin(1, HEAPLESS);
        no("make(0, 4) in 4", FULL, () -> m.make(0, 4));
        due("make(0, 2)", m.make(0, 2), 0);
        no("make(0, 1) in 1", FULL, () -> m.make(0, 1));
        due("make(0, 0) in 1", m.make(0, 0), 1);
        no("make(0, 0) in 0", FULL, () -> m.make(0, 0));
        no("make(0, 5): numbers first", REFUSED, () -> m.make(0, 5));
        due("make(1, 4): all of IMMORTAL", m.make(1, 4), 2);
        no("make(1, 0)", FULL, () -> m.make(1, 0));
        m.enter(1, 2);
        no("make(1, 1) in a scope of 1", FULL, () -> m.make(1, 1));
        due("make(1, 0) in a scope of 1", m.make(1, 0), 3);
        no("make(1, 0) again", FULL, () -> m.make(1, 0));

        fresh("7 make with 40 objects", 60, 60);
        makeScopes(5);
        m.begin(0, PLAIN);
        for (int number = 0; number < 30; number++) {
            due("make(0, 0)", m.make(0, 0), number);
        }
        m.turn(0, 1);
        for (int number = 30; number < 40; number++) {
            due("make(0, 0)", m.make(0, 0), number);
        }
        due("count(0)", m.count(0), 40);
        no("a 41st in IMMORTAL", FULL, () -> m.make(0, 0));
        m.enter(0, 2);
        no("a 41st in a scope", FULL, () -> m.make(0, 0));
        due("collect()", m.collect(), 30);
        due("make(0, 0)", m.make(0, 0), 0);
    }

    private static void put() {
        fresh("8 put", 20, 20);
        m.begin(0, PLAIN);
        m.make(0, 4);
        m.make(0, 1);
        m.make(0, 0);
        no("put(1, 0, 0, 1) idle", REFUSED, () -> m.put(1, 0, 0, 1));
        no("put(-1, 0, 0, 1)", REFUSED, () -> m.put(-1, 0, 0, 1));
        no("put(4, 0, 0, 1)", REFUSED, () -> m.put(4, 0, 0, 1));
        no("put(0, -1, 0, 1): no null here", REFUSED, () -> m.put(0, -1, 0, 1));
        no("put(0, 3, 0, 1)", REFUSED, () -> m.put(0, 3, 0, 1));
        no("put(0, 40, 0, 1)", REFUSED, () -> m.put(0, 40, 0, 1));
        no("put(0, 0, -1, 1)", REFUSED, () -> m.put(0, 0, -1, 1));
        no("put(0, 0, 4, 1)", REFUSED, () -> m.put(0, 0, 4, 1));
        no("put(0, 1, 1, 0): one field only", REFUSED, () -> m.put(0, 1, 1, 0));
        no("put(0, 2, 0, 0): no fields", REFUSED, () -> m.put(0, 2, 0, 0));
        no("put(0, 0, 0, 3)", REFUSED, () -> m.put(0, 0, 0, 3));
        no("put(0, 0, 0, 40)", REFUSED, () -> m.put(0, 0, 0, 40));
        no("put(0, 0, 0, -2)", REFUSED, () -> m.put(0, 0, 0, -2));
        due("put(0, 0, 0, 1)", m.put(0, 0, 0, 1), OK);
        due("put(0, 0, 3, 2)", m.put(0, 0, 3, 2), OK);
        due("put(0, 0, 1, 0): itself", m.put(0, 0, 1, 0), OK);
        due("get(0, 0, 0)", m.get(0, 0, 0), 1);
        due("get(0, 0, 1)", m.get(0, 0, 1), 0);
        due("get(0, 0, 2)", m.get(0, 0, 2), NULL);
        due("get(0, 0, 3)", m.get(0, 0, 3), 2);
        due("put(0, 0, 0, 2): another one", m.put(0, 0, 0, 2), OK);
        due("get(0, 0, 0)", m.get(0, 0, 0), 2);
        due("put(0, 0, 0, -1): null", m.put(0, 0, 0, -1), OK);
        due("get(0, 0, 0)", m.get(0, 0, 0), NULL);
    }

    /** Threads 0 in HEAP > 2 > 3 and 1 in HEAP > 2 > 4; objects 0 heap, 1 immortal, 2 in 2, 3 in 3, 4 in 4. */
    private static void family(String part) {
        fresh(part, 30, 30);
        makeScopes(20, 20, 20, 20);
        m.begin(0, PLAIN);
        m.begin(1, PLAIN);
        due("in the HEAP", m.make(0, 2), 0);
        m.turn(0, 1);
        due("in IMMORTAL", m.make(0, 2), 1);
        m.leave(0);
        m.enter(0, 2);
        due("in 2", m.make(0, 2), 2);
        m.enter(0, 3);
        due("in 3", m.make(0, 2), 3);
        m.enter(1, 2);
        m.enter(1, 4);
        due("in 4", m.make(1, 2), 4);
    }

    private static void putBetweenScopes() {
        family("8 put between areas");
        int[][] answers = {
            {OK, OK, ILLEGAL, ILLEGAL},
            {OK, OK, ILLEGAL, ILLEGAL},
            {OK, OK, OK, ILLEGAL},
            {OK, OK, OK, OK},
        };
        for (int object = 0; object < 4; object++) {
            for (int target = 0; target < 4; target++) {
                String call = "put(0, " + object + ", 1, " + target + ")";
                if (answers[object][target] == OK) {
                    due(call, m.put(0, object, 1, target), OK);
                    due("get after " + call, m.get(0, object, 1), target);
                } else {
                    int from = object;
                    int to = target;
                    no(call, ILLEGAL, () -> m.put(0, from, 1, to));
                }
            }
        }
        due("put(1, 4, 0, 2): 4 lies in 2", m.put(1, 4, 0, 2), OK);
        m.enter(0, 5);
        due("in 5", m.make(0, 1), 5);
        due("put(0, 5, 0, 2): the parent's parent", m.put(0, 5, 0, 2), OK);
        no("put(0, 2, 0, 5)", ILLEGAL, () -> m.put(0, 2, 0, 5));
        due("in 5", m.make(0, 1), 6);
        due("put(0, 6, 0, 5): in the same scope", m.put(0, 6, 0, 5), OK);
        due("put(0, 2, 0, -1): null is legal anywhere", m.put(0, 2, 0, -1), OK);
    }

    private static void putUnseen() {
        family("8 put unseen");
        no("put(0, 4, 0, 0): a scope not in view", UNSEEN, () -> m.put(0, 4, 0, 0));
        no("put(0, 4, 0, -1)", UNSEEN, () -> m.put(0, 4, 0, -1));
        no("put(0, 3, 0, 4): the target", UNSEEN, () -> m.put(0, 3, 0, 4));
        no("put(0, 0, 0, 4): UNSEEN before ILLEGAL", UNSEEN, () -> m.put(0, 0, 0, 4));
        no("put(0, 4, 2, 0): no such field, before UNSEEN", REFUSED, () -> m.put(0, 4, 2, 0));
        m.turn(0, 0);
        no("put(0, 2, 0, 0): not in view from the HEAP", UNSEEN, () -> m.put(0, 2, 0, 0));
        due("put(0, 1, 0, 0): IMMORTAL is seen from anywhere", m.put(0, 1, 0, 0), OK);
        m.begin(2, HEAPLESS);
        no("put(2, 0, 0, 1): a heapless thread and a HEAP object", UNSEEN, () -> m.put(2, 0, 0, 1));
        no("put(2, 1, 0, 0): a heapless thread and a HEAP target", UNSEEN, () -> m.put(2, 1, 0, 0));
        due("put(2, 1, 0, 1)", m.put(2, 1, 0, 1), OK);
        no("put(2, 2, 0, 1)", UNSEEN, () -> m.put(2, 2, 0, 1));
        m.enter(2, 2);
        due("put(2, 2, 0, 1)", m.put(2, 2, 0, 1), OK);
    }

    private static void get() {
        family("9 get");
        m.put(0, 3, 0, 0);
        m.put(0, 2, 1, 0);
        m.put(0, 2, 0, 2);
        due("get(0, 3, 0)", m.get(0, 3, 0), 0);
        no("get(0, 3, 1) null", NULL, () -> m.get(0, 3, 1));
        no("get(0, 3, 2): no such field", REFUSED, () -> m.get(0, 3, 2));
        no("get(0, 3, 4)", REFUSED, () -> m.get(0, 3, 4));
        no("get(0, 3, -1)", REFUSED, () -> m.get(0, 3, -1));
        no("get(0, 5, 0): no such object", REFUSED, () -> m.get(0, 5, 0));
        no("get(0, -1, 0)", REFUSED, () -> m.get(0, -1, 0));
        no("get(0, 40, 0)", REFUSED, () -> m.get(0, 40, 0));
        no("get(3, 0, 0) idle", REFUSED, () -> m.get(3, 0, 0));
        no("get(-1, 0, 0)", REFUSED, () -> m.get(-1, 0, 0));
        no("get(4, 0, 0)", REFUSED, () -> m.get(4, 0, 0));
        no("get(1, 3, 0): not in view", UNSEEN, () -> m.get(1, 3, 0));
        no("get(1, 3, 1): UNSEEN before NULL", UNSEEN, () -> m.get(1, 3, 1));
        no("get(1, 3, 2): no such field, before UNSEEN", REFUSED, () -> m.get(1, 3, 2));
        m.begin(2, HEAPLESS);
        m.enter(2, 2);
        due("get(2, 2, 0)", m.get(2, 2, 0), 2);
        no("get(2, 2, 1): heapless, and it holds a HEAP object", UNSEEN, () -> m.get(2, 2, 1));
        no("get(2, 0, 0): heapless", UNSEEN, () -> m.get(2, 0, 0));
        due("get(1, 2, 1): plain", m.get(1, 2, 1), 0);
        m.put(2, 2, 1, -1);
        due("get(2, 2, 1)", m.get(2, 2, 1), NULL);
    }

    private static void hang() {
        family("10 hang");
        due("hang(0, 3, 3)", m.hang(0, 3, 3), OK);
        due("hang(0, 2, 2)", m.hang(0, 2, 2), OK);
        due("portal(0, 3)", m.portal(0, 3), 3);
        due("portal(1, 2)", m.portal(1, 2), 2);
        no("hang(0, 3, 2): in another scope", ILLEGAL, () -> m.hang(0, 3, 2));
        no("hang(0, 2, 3): in another scope", ILLEGAL, () -> m.hang(0, 2, 3));
        no("hang(0, 3, 0): in the HEAP", ILLEGAL, () -> m.hang(0, 3, 0));
        no("hang(0, 3, 1): in IMMORTAL", ILLEGAL, () -> m.hang(0, 3, 1));
        no("hang(0, 3, 4): the object unseen", UNSEEN, () -> m.hang(0, 3, 4));
        no("hang(0, 4, 4): the scope not in view", UNSEEN, () -> m.hang(0, 4, 4));
        no("hang(0, 4, 3): UNSEEN before ILLEGAL", UNSEEN, () -> m.hang(0, 4, 3));
        no("hang(0, 4, -1): not in view", UNSEEN, () -> m.hang(0, 4, -1));
        no("hang(0, 0, 0)", REFUSED, () -> m.hang(0, 0, 0));
        no("hang(0, 1, 1)", REFUSED, () -> m.hang(0, 1, 1));
        no("hang(0, 0, -1)", REFUSED, () -> m.hang(0, 0, -1));
        no("hang(0, 6, 3): not made", REFUSED, () -> m.hang(0, 6, 3));
        no("hang(0, -1, 3)", REFUSED, () -> m.hang(0, -1, 3));
        no("hang(0, 3, -2)", REFUSED, () -> m.hang(0, 3, -2));
        no("hang(0, 3, 5)", REFUSED, () -> m.hang(0, 3, 5));
        no("hang(0, 4, 5): numbers first", REFUSED, () -> m.hang(0, 4, 5));
        no("hang(0, 3, 40)", REFUSED, () -> m.hang(0, 3, 40));
        no("hang(2, 3, 3) idle", REFUSED, () -> m.hang(2, 3, 3));
        no("hang(-1, 3, 3)", REFUSED, () -> m.hang(-1, 3, 3));
        no("hang(4, 3, 3)", REFUSED, () -> m.hang(4, 3, 3));
        due("another one in 3", m.make(0, 0), 5);
        due("hang(0, 3, 5)", m.hang(0, 3, 5), OK);
        due("portal(0, 3)", m.portal(0, 3), 5);
        due("hang(0, 3, -1)", m.hang(0, 3, -1), OK);
        due("portal(0, 3)", m.portal(0, 3), NULL);
        due("portal(0, 2) stays", m.portal(0, 2), 2);
        m.begin(2, HEAPLESS);
        m.enter(2, 2);
        no("hang(2, 2, 0): heapless", UNSEEN, () -> m.hang(2, 2, 0));
        due("hang(2, 2, 2): heapless", m.hang(2, 2, 2), OK);
    }

    private static void portal() {
        family("11 portal");
        no("portal(0, 3): none yet", NULL, () -> m.portal(0, 3));
        m.hang(0, 3, 3);
        m.hang(1, 2, 2);
        due("portal(0, 3)", m.portal(0, 3), 3);
        due("portal(0, 2): hung by another thread", m.portal(0, 2), 2);
        no("portal(1, 3): not in view", UNSEEN, () -> m.portal(1, 3));
        no("portal(0, 5): not entered", UNSEEN, () -> m.portal(0, 5));
        no("portal(0, 0)", REFUSED, () -> m.portal(0, 0));
        no("portal(0, 1)", REFUSED, () -> m.portal(0, 1));
        no("portal(0, 6): not made", REFUSED, () -> m.portal(0, 6));
        no("portal(0, -1)", REFUSED, () -> m.portal(0, -1));
        no("portal(2, 2) idle", REFUSED, () -> m.portal(2, 2));
        no("portal(-1, 2)", REFUSED, () -> m.portal(-1, 2));
        no("portal(4, 2)", REFUSED, () -> m.portal(4, 2));
        m.turn(0, 2);
        due("portal(0, 2) after a turn", m.portal(0, 2), 2);
        no("portal(0, 3): above the turn", UNSEEN, () -> m.portal(0, 3));
        m.turn(0, 1);
        no("portal(0, 2): not in view from IMMORTAL", UNSEEN, () -> m.portal(0, 2));
        m.leave(0);
        m.leave(0);
        due("portal(0, 3): back again", m.portal(0, 3), 3);
        m.leave(0);
        m.enter(0, 3);
        due("portal(0, 3): emptied in between", m.portal(0, 3), NULL);
    }

    private static void assign() {
        family("12 assign");
        due("assign(0, 0, 0): in the HEAP", m.assign(0, 0, 0), OK);
        due("assign(0, 3, 1): in IMMORTAL", m.assign(0, 3, 1), OK);
        due("count(4)", m.count(4), 0);
        due("count(5)", m.count(5), NULL);
        due("count(6)", m.count(6), NULL);
        due("count(7)", m.count(7), 1);
        no("assign(0, 0, 2): in a scope", ILLEGAL, () -> m.assign(0, 0, 2));
        no("assign(0, 0, 3): in a scope", ILLEGAL, () -> m.assign(0, 0, 3));
        no("assign(0, 0, 4): UNSEEN before ILLEGAL", UNSEEN, () -> m.assign(0, 0, 4));
        no("assign(0, -1, 0)", REFUSED, () -> m.assign(0, -1, 0));
        no("assign(0, 4, 0)", REFUSED, () -> m.assign(0, 4, 0));
        no("assign(0, 4, 4): numbers first", REFUSED, () -> m.assign(0, 4, 4));
        no("assign(0, 4, -1): numbers first", REFUSED, () -> m.assign(0, 4, -1));
        no("assign(0, 0, 5)", REFUSED, () -> m.assign(0, 0, 5));
        no("assign(0, 0, -2)", REFUSED, () -> m.assign(0, 0, -2));
        no("assign(0, 0, 40)", REFUSED, () -> m.assign(0, 0, 40));
        no("assign(2, 0, 0) idle", REFUSED, () -> m.assign(2, 0, 0));
        no("assign(-1, 0, 0)", REFUSED, () -> m.assign(-1, 0, 0));
        no("assign(4, 0, 0)", REFUSED, () -> m.assign(4, 0, 0));
        m.begin(2, HEAPLESS);
        no("assign(2, 1, 0): heapless", UNSEEN, () -> m.assign(2, 1, 0));
        due("assign(2, 1, 1): heapless", m.assign(2, 1, 1), OK);
        due("assign(2, 0, -1): null", m.assign(2, 0, -1), OK);
        due("count(4)", m.count(4), NULL);
        due("count(5)", m.count(5), 1);
        due("assign(0, 1, 0): another one", m.assign(0, 1, 0), OK);
        due("count(5)", m.count(5), 0);
    }

    private static void collect() {
        fresh("13 collect", 30, 30);
        makeScopes(10);
        due("collect() of nothing", m.collect(), 0);
        m.begin(0, PLAIN);
        due("in the HEAP", m.make(0, 4), 0);
        due("in the HEAP", m.make(0, 1), 1);
        m.turn(0, 1);
        due("in IMMORTAL", m.make(0, 1), 2);
        m.leave(0);
        m.enter(0, 2);
        due("in 2", m.make(0, 1), 3);
        due("room(0)", m.room(0), 23);
        due("collect()", m.collect(), 2);
        due("areaOf(0)", m.areaOf(0), REFUSED);
        due("areaOf(1)", m.areaOf(1), REFUSED);
        due("areaOf(2): IMMORTAL stays", m.areaOf(2), 1);
        due("areaOf(3): a scope's stays", m.areaOf(3), 2);
        due("room(0)", m.room(0), 30);
        due("room(1)", m.room(1), 28);
        due("room(2)", m.room(2), 8);
        due("count(0)", m.count(0), 2);
        due("collect() again", m.collect(), 0);
        m.turn(0, 0);
        due("the number again", m.make(0, 1), 0);
        due("its field is null", m.get(0, 0, 0), NULL);
    }

    private static void collectReach() {
        fresh("13 what is reached", 60, 30);
        makeScopes(10);
        m.begin(0, PLAIN);
        for (int number = 0; number < 12; number++) {
            due("make(0, 2)", m.make(0, 2), number);
        }
        m.turn(0, 1);
        due("in IMMORTAL", m.make(0, 4), 12);
        m.enter(0, 2);
        due("in 2", m.make(0, 4), 13);
        // 0 > 1 > 2 > 0 is a ring that nothing reaches; 3 > 4 > 5, 6; 7 > 8; 9 holds itself; 10, 11 > 10.
        int[][] links = {{0, 1}, {1, 2}, {2, 0}, {3, 4}, {4, 5}, {4, 6}, {7, 8}, {9, 9}, {11, 10}};
        int[] next = new int[12];
        for (int[] link : links) {
            due("put", m.put(0, link[0], next[link[0]]++, link[1]), OK);
        }
        due("assign(0, 2, 3)", m.assign(0, 2, 3), OK);
        due("put(0, 12, 3, 7)", m.put(0, 12, 3, 7), OK);
        due("put(0, 13, 0, 10)", m.put(0, 13, 0, 10), OK);
        due("count(3): 3 4 5 6, 7 8, 10", m.count(3), 7);
        due("collect(): 0 1 2, 9, 11", m.collect(), 5);
        int[] gone = {0, 1, 2, 9, 11};
        for (int object : gone) {
            due("areaOf(" + object + ")", m.areaOf(object), REFUSED);
        }
        int[] kept = {3, 4, 5, 6, 7, 8, 10};
        for (int object : kept) {
            due("areaOf(" + object + ")", m.areaOf(object), 0);
        }
        due("get(0, 4, 1)", m.get(0, 4, 1), 6);
        due("collect() again", m.collect(), 0);
        due("put(0, 4, 0, -1)", m.put(0, 4, 0, -1), OK);
        due("collect(): 5", m.collect(), 1);
        due("leave(0): 2 is emptied", m.leave(0), 2);
        due("count(3)", m.count(3), 5);
        due("collect(): 10", m.collect(), 1);
        due("assign(0, 2, 12): a static on IMMORTAL", m.assign(0, 2, 12), OK);
        due("collect(): 3 4 6", m.collect(), 3);
        due("put(0, 12, 3, -1)", m.put(0, 12, 3, -1), OK);
        due("collect(): 7 8", m.collect(), 2);
        due("count(0)", m.count(0), 1);
        due("room(0)", m.room(0), 60);

        fresh("13 the least number holds on from IMMORTAL", 60, 4);
        m.begin(0, PLAIN);
        m.turn(0, 1);
        due("in IMMORTAL", m.make(0, 1), 0);
        m.leave(0);
        due("in the HEAP", m.make(0, 0), 1);
        due("put(0, 0, 0, 1)", m.put(0, 0, 0, 1), OK);
        due("count(3)", m.count(3), 1);
        due("collect()", m.collect(), 0);

        fresh("13 the deepest chain", 60, 4);
        m.begin(0, PLAIN);
        for (int number = 0; number < 30; number++) {
            due("make(0, 1)", m.make(0, 1), number);
        }
        for (int number = 29; number > 0; number--) {
            due("put", m.put(0, number, 0, number - 1), OK);
        }
        due("assign(0, 0, 29)", m.assign(0, 0, 29), OK);
        due("count(3)", m.count(3), 30);
        due("collect()", m.collect(), 0);
        due("put(0, 15, 0, -1)", m.put(0, 15, 0, -1), OK);
        due("collect()", m.collect(), 15);
        due("count(3)", m.count(3), 15);
    }

    private static void areaOf() {
        family("14 areaOf");
        for (int object = 0; object <= 4; object++) {
            due("areaOf(" + object + ")", m.areaOf(object), object);
        }
        no("areaOf(-1): no null here", REFUSED, () -> m.areaOf(-1));
        no("areaOf(5)", REFUSED, () -> m.areaOf(5));
        no("areaOf(39)", REFUSED, () -> m.areaOf(39));
        no("areaOf(40)", REFUSED, () -> m.areaOf(40));
    }

    private static void room() {
        family("15 room");
        due("room(0)", m.room(0), 27);
        due("room(1)", m.room(1), 27);
        due("room(2)", m.room(2), 17);
        due("room(5)", m.room(5), 20);
        no("room(6): not made", REFUSED, () -> m.room(6));
        no("room(-1)", REFUSED, () -> m.room(-1));
        no("room(10)", REFUSED, () -> m.room(10));
        m.make(0, 4);
        due("room(3)", m.room(3), 12);
        m.leave(0);
        due("room(3): emptied", m.room(3), 20);
        due("room(2): as before", m.room(2), 17);
        m.collect();
        due("room(0): collected", m.room(0), 30);
    }

    private static void parent() {
        family("16 parent");
        due("parent(2): the root", m.parent(2), 0);
        due("parent(3)", m.parent(3), 2);
        due("parent(4)", m.parent(4), 2);
        no("parent(5): no entries", NULL, () -> m.parent(5));
        no("parent(0)", REFUSED, () -> m.parent(0));
        no("parent(1)", REFUSED, () -> m.parent(1));
        no("parent(6): not made", REFUSED, () -> m.parent(6));
        no("parent(-1)", REFUSED, () -> m.parent(-1));
        no("parent(10)", REFUSED, () -> m.parent(10));
        m.leave(0);
        due("parent(3): emptied", m.parent(3), NULL);
        m.enter(1, 3);
        due("parent(3): another one", m.parent(3), 4);
    }

    private static void entries() {
        family("17 entries");
        due("entries(2)", m.entries(2), 2);
        due("entries(3)", m.entries(3), 1);
        due("entries(5)", m.entries(5), 0);
        no("entries(0)", REFUSED, () -> m.entries(0));
        no("entries(1)", REFUSED, () -> m.entries(1));
        no("entries(6): not made", REFUSED, () -> m.entries(6));
        no("entries(-1)", REFUSED, () -> m.entries(-1));
        no("entries(10)", REFUSED, () -> m.entries(10));
        m.turn(0, 1);
        due("enter(0, 2) twice by one thread", m.enter(0, 2), 3);
        due("entries(2)", m.entries(2), 3);
        m.leave(0);
        due("entries(2)", m.entries(2), 2);
    }

    private static void view() {
        family("18 view");
        due("view(0, 0)", m.view(0, 0), 3);
        due("view(0, 1)", m.view(0, 1), 2);
        due("view(0, 2)", m.view(0, 2), 0);
        no("view(0, 3)", REFUSED, () -> m.view(0, 3));
        no("view(0, 12)", REFUSED, () -> m.view(0, 12));
        no("view(0, -1)", REFUSED, () -> m.view(0, -1));
        no("view(2, 0) idle", REFUSED, () -> m.view(2, 0));
        no("view(-1, 0)", REFUSED, () -> m.view(-1, 0));
        no("view(4, 0)", REFUSED, () -> m.view(4, 0));

        fresh("18 the longest view", 10, 10);
        makeScopes(1, 1, 1, 1, 1, 1, 1, 1);
        m.begin(3, HEAPLESS);
        for (int scope = 2; scope <= 9; scope++) {
            due("enter", m.enter(3, scope), 1);
        }
        for (int i = 0; i < 8; i++) {
            due("view(3, " + i + ")", m.view(3, i), 9 - i);
        }
        due("view(3, 8)", m.view(3, 8), 1);
        for (int i = 9; i <= 14; i++) {
            due("view(3, " + i + ")", m.view(3, i), REFUSED);
        }
    }

    private static void count() {
        family("19 count");
        due("count(0)", m.count(0), 5);
        due("count(1)", m.count(1), 6);
        due("count(2)", m.count(2), 2);
        due("count(3)", m.count(3), 0);
        m.put(0, 3, 0, 0);
        due("count(3)", m.count(3), 1);
        m.assign(0, 1, 0);
        due("count(3): reached twice, counted once", m.count(3), 1);
        m.assign(0, 2, 1);
        due("count(3): IMMORTAL is not counted", m.count(3), 1);
        due("count(4)", m.count(4), NULL);
        due("count(5)", m.count(5), 0);
        due("count(6)", m.count(6), 1);
        due("count(7)", m.count(7), NULL);
        no("count(-1)", REFUSED, () -> m.count(-1));
        no("count(8)", REFUSED, () -> m.count(8));
        m.make(1, 0);
        m.scope(3);
        m.begin(3, HEAPLESS);
        due("count(0)", m.count(0), 6);
        due("count(1)", m.count(1), 7);
        due("count(2)", m.count(2), 3);
        m.leave(0);
        due("count(0): 3 is emptied", m.count(0), 5);
        m.leave(3);
        due("count(2)", m.count(2), 2);
    }

    /** Any int in any place where a number is looked up is answered, and changes nothing. */
    private static void wildNumbers() {
        family("wild numbers");
        for (int w : WILD) {
            no("scope(" + w + ")", REFUSED, () -> m.scope(w));
            no("begin(" + w + ")", REFUSED, () -> m.begin(w, PLAIN));
            no("enter(" + w + ", 5)", REFUSED, () -> m.enter(w, 5));
            no("enter(0, " + w + ")", REFUSED, () -> m.enter(0, w));
            no("turn(" + w + ", 0)", REFUSED, () -> m.turn(w, 0));
            no("turn(0, " + w + ")", REFUSED, () -> m.turn(0, w));
            no("leave(" + w + ")", REFUSED, () -> m.leave(w));
            no("make(" + w + ", 0)", REFUSED, () -> m.make(w, 0));
            no("make(0, " + w + ")", REFUSED, () -> m.make(0, w));
            no("put(" + w + ", 0, 0, 0)", REFUSED, () -> m.put(w, 0, 0, 0));
            no("put(0, " + w + ", 0, 0)", REFUSED, () -> m.put(0, w, 0, 0));
            no("put(0, 0, " + w + ", 0)", REFUSED, () -> m.put(0, 0, w, 0));
            no("put(0, 0, 0, " + w + ")", REFUSED, () -> m.put(0, 0, 0, w));
            no("get(" + w + ", 0, 0)", REFUSED, () -> m.get(w, 0, 0));
            no("get(0, " + w + ", 0)", REFUSED, () -> m.get(0, w, 0));
            no("get(0, 0, " + w + ")", REFUSED, () -> m.get(0, 0, w));
            no("hang(" + w + ", 3, 3)", REFUSED, () -> m.hang(w, 3, 3));
            no("hang(0, " + w + ", 3)", REFUSED, () -> m.hang(0, w, 3));
            no("hang(0, 3, " + w + ")", REFUSED, () -> m.hang(0, 3, w));
            no("portal(" + w + ", 3)", REFUSED, () -> m.portal(w, 3));
            no("portal(0, " + w + ")", REFUSED, () -> m.portal(0, w));
            no("assign(" + w + ", 0, 0)", REFUSED, () -> m.assign(w, 0, 0));
            no("assign(0, " + w + ", 0)", REFUSED, () -> m.assign(0, w, 0));
            no("assign(0, 0, " + w + ")", REFUSED, () -> m.assign(0, 0, w));
            no("areaOf(" + w + ")", REFUSED, () -> m.areaOf(w));
            no("room(" + w + ")", REFUSED, () -> m.room(w));
            no("parent(" + w + ")", REFUSED, () -> m.parent(w));
            no("entries(" + w + ")", REFUSED, () -> m.entries(w));
            no("view(" + w + ", 0)", REFUSED, () -> m.view(w, 0));
            no("view(0, " + w + ")", REFUSED, () -> m.view(0, w));
            no("count(" + w + ")", REFUSED, () -> m.count(w));
        }
    }
}

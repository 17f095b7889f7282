/**
 * Memory in areas of different life: a collected heap, an immortal area, and scopes that threads
 * enter and leave and that are emptied when the last one is gone; stores that could leave a
 * reference dangling are refused.
 */
public final class ScopedMemory {
    public static final int OK = 0;
    public static final int REFUSED = -1;
    public static final int FULL = -2;
    public static final int CYCLE = -3;
    public static final int UNSEEN = -4;
    public static final int ILLEGAL = -5;
    public static final int NULL = -6;

    private static final int HEAP = 0;
    private static final int IMMORTAL = 1;
    private static final int FIRST_SCOPE = 2;
    /** No scope has the number 0, so it can stand for the root, as the document's answer does. */
    private static final int ROOT = 0;
    /** Stands for null where an OBJECT is held, for no step, and for the area of a free number. */
    private static final int NONE = -1;

    private static final int AREA_LIMIT = 10;
    private static final int OBJECT_LIMIT = 40;
    private static final int FIELD_LIMIT = 4;
    private static final int THREAD_LIMIT = 4;
    private static final int STEP_LIMIT = 12;
    private static final int STATIC_LIMIT = 4;
    private static final int LEAST_BASE_SIZE = 4;
    private static final int GREATEST_BASE_SIZE = 60;
    private static final int GREATEST_SCOPE_SIZE = 40;

    private final Area[] areas = new Area[AREA_LIMIT];
    private final Cell[] cells = new Cell[OBJECT_LIMIT];
    private final Row[] rows = new Row[THREAD_LIMIT];
    private final int[] statics = new int[STATIC_LIMIT];
    /** The KEPT objects in the order in which the last search met them. */
    private final int[] found = new int[OBJECT_LIMIT];
    private int foundCount;
    private int areaCount;
    private int objectCount;

    public ScopedMemory(int heap, int immortal) {
        // All parts are made here and used again, so that no later call makes anything.
        for (int i = 0; i < AREA_LIMIT; i++) {
            areas[i] = new Area();
        }
        for (int i = 0; i < OBJECT_LIMIT; i++) {
            cells[i] = new Cell();
        }
        for (int i = 0; i < THREAD_LIMIT; i++) {
            rows[i] = new Row();
        }
        for (int i = 0; i < STATIC_LIMIT; i++) {
            statics[i] = NONE;
        }
        areas[HEAP].size = clampBaseSize(heap);
        areas[IMMORTAL].size = clampBaseSize(immortal);
        areaCount = FIRST_SCOPE;
    }

    public int scope(int size) {
        if (size < 1 || size > GREATEST_SCOPE_SIZE) {
            return REFUSED;
        }
        if (areaCount >= AREA_LIMIT) {
            return FULL;
        }
        int made = areaCount;
        areas[made].size = size;
        areaCount++;
        return made;
    }

    public int begin(int thread, boolean heapless) {
        if (!isThread(thread) || isBegun(thread)) {
            return REFUSED;
        }
        rows[thread].heapless = heapless;
        rows[thread].push(heapless ? IMMORTAL : HEAP, NONE, false);
        return OK;
    }

    public int enter(int thread, int scope) {
        if (!isBegun(thread) || !isScope(scope)) {
            return REFUSED;
        }
        Row row = rows[thread];
        Area entered = areas[scope];
        int nearest = row.nearestScope();
        if (row.hasInView(scope) || (entered.entries > 0 && entered.parent != nearest)) {
            return CYCLE;
        }
        if (row.isFull()) {
            return FULL;
        }
        if (entered.entries == 0) {
            entered.parent = nearest;
        }
        entered.entries++;
        row.push(scope, row.top(), true);
        return entered.entries;
    }

    public int turn(int thread, int area) {
        if (!isBegun(thread) || !isArea(area)) {
            return REFUSED;
        }
        Row row = rows[thread];
        if (area == HEAP && row.heapless) {
            return ILLEGAL;
        }
        if (isScope(area) && !row.hasInView(area)) {
            return UNSEEN;
        }
        if (row.isFull()) {
            return FULL;
        }
        row.push(area, isScope(area) ? row.underOfFirstWith(area) : NONE, false);
        return row.length;
    }

    public int leave(int thread) {
        if (!isBegun(thread)) {
            return REFUSED;
        }
        Row row = rows[thread];
        int area = row.currentArea();
        boolean wasEntered = row.topWasEntered();
        row.pop();
        if (wasEntered) {
            dropEntry(area);
        }
        return row.length;
    }

    public int make(int thread, int fields) {
        if (!isBegun(thread) || fields < 0 || fields > FIELD_LIMIT) {
            return REFUSED;
        }
        int area = rows[thread].currentArea();
        int made = leastFreeNumber();
        if (made == NONE || areas[area].free() < 1 + fields) {
            return FULL;
        }
        cells[made].fill(area, fields);
        areas[area].used += 1 + fields;
        objectCount++;
        return made;
    }

    public int put(int thread, int object, int field, int target) {
        if (!isBegun(thread) || !hasField(object, field) || !isObjectOrNull(target)) {
            return REFUSED;
        }
        if (!sees(thread, object) || !seesOrNull(thread, target)) {
            return UNSEEN;
        }
        if (target != NONE && !mayPointTo(cells[object].area, target)) {
            return ILLEGAL;
        }
        cells[object].fields[field] = target;
        return OK;
    }

    public int get(int thread, int object, int field) {
        if (!isBegun(thread) || !hasField(object, field)) {
            return REFUSED;
        }
        if (!sees(thread, object)) {
            return UNSEEN;
        }
        int held = cells[object].fields[field];
        if (held == NONE) {
            return NULL;
        }
        return sees(thread, held) ? held : UNSEEN;
    }

    public int hang(int thread, int scope, int object) {
        if (!isBegun(thread) || !isScope(scope) || !isObjectOrNull(object)) {
            return REFUSED;
        }
        if (!rows[thread].hasInView(scope) || !seesOrNull(thread, object)) {
            return UNSEEN;
        }
        if (object != NONE && cells[object].area != scope) {
            return ILLEGAL;
        }
        areas[scope].portal = object;
        return OK;
    }

    public int portal(int thread, int scope) {
        if (!isBegun(thread) || !isScope(scope)) {
            return REFUSED;
        }
        if (!rows[thread].hasInView(scope)) {
            return UNSEEN;
        }
        return objectOrNull(areas[scope].portal);
    }

    public int assign(int thread, int k, int object) {
        if (!isBegun(thread) || k < 0 || k >= STATIC_LIMIT || !isObjectOrNull(object)) {
            return REFUSED;
        }
        if (!seesOrNull(thread, object)) {
            return UNSEEN;
        }
        if (object != NONE && isScope(cells[object].area)) {
            return ILLEGAL;
        }
        statics[k] = object;
        return OK;
    }

    public int collect() {
        findKept();
        int before = objectCount;
        for (int i = 0; i < OBJECT_LIMIT; i++) {
            if (cells[i].area == HEAP && !cells[i].kept) {
                drop(i);
            }
        }
        return before - objectCount;
    }

    public int areaOf(int object) {
        return isObject(object) ? cells[object].area : REFUSED;
    }

    public int room(int area) {
        return isArea(area) ? areas[area].free() : REFUSED;
    }

    public int parent(int scope) {
        if (!isScope(scope)) {
            return REFUSED;
        }
        return areas[scope].entries > 0 ? areas[scope].parent : NULL;
    }

    public int entries(int scope) {
        return isScope(scope) ? areas[scope].entries : REFUSED;
    }

    public int view(int thread, int i) {
        if (!isBegun(thread) || i < 0) {
            return REFUSED;
        }
        int area = rows[thread].areaInView(i);
        return area == NONE ? REFUSED : area;
    }

    public int count(int what) {
        switch (what) {
            case 0:
                return objectCount;
            case 1:
                return areaCount;
            case 2:
                return begunThreads();
            case 3:
                findKept();
                return foundCount;
            case 4:
            case 5:
            case 6:
            case 7:
                return objectOrNull(statics[what - 4]);
            default:
                return REFUSED;
        }
    }

    private static int clampBaseSize(int size) {
        return Math.max(LEAST_BASE_SIZE, Math.min(GREATEST_BASE_SIZE, size));
    }

    private static boolean isThread(int thread) {
        return thread >= 0 && thread < THREAD_LIMIT;
    }

    private boolean isBegun(int thread) {
        return isThread(thread) && rows[thread].length > 0;
    }

    private boolean isArea(int area) {
        return area >= 0 && area < areaCount;
    }

    private boolean isScope(int area) {
        return area >= FIRST_SCOPE && isArea(area);
    }

    private boolean isObject(int object) {
        return object >= 0 && object < OBJECT_LIMIT && cells[object].area != NONE;
    }

    private boolean isObjectOrNull(int object) {
        return object == NONE || isObject(object);
    }

    private boolean hasField(int object, int field) {
        return isObject(object) && field >= 0 && field < cells[object].fieldCount;
    }

    /** The answer that tells what a place holds: null is told by NULL, not by the number it is held as. */
    private static int objectOrNull(int held) {
        return held == NONE ? NULL : held;
    }

    private boolean sees(int thread, int object) {
        int area = cells[object].area;
        if (area == HEAP) {
            return !rows[thread].heapless;
        }
        return area == IMMORTAL || rows[thread].hasInView(area);
    }

    private boolean seesOrNull(int thread, int object) {
        return object == NONE || sees(thread, object);
    }

    private boolean mayPointTo(int area, int object) {
        int targetArea = cells[object].area;
        return targetArea == HEAP || targetArea == IMMORTAL || liesIn(area, targetArea);
    }

    /** False for the HEAP and IMMORTAL, which lie in no scope. */
    private boolean liesIn(int area, int scope) {
        int at = area;
        // A scope's parent is never one that lies in it, so the way up is no longer than all areas.
        for (int i = 0; i < AREA_LIMIT && isScope(at); i++) {
            if (at == scope) {
                return true;
            }
            at = areas[at].parent;
        }
        return false;
    }

    private int begunThreads() {
        int begun = 0;
        for (int i = 0; i < THREAD_LIMIT; i++) {
            if (isBegun(i)) {
                begun++;
            }
        }
        return begun;
    }

    private int leastFreeNumber() {
        for (int i = 0; i < OBJECT_LIMIT; i++) {
            if (cells[i].area == NONE) {
                return i;
            }
        }
        return NONE;
    }

    private void drop(int object) {
        Cell cell = cells[object];
        areas[cell.area].used -= 1 + cell.fieldCount;
        cell.area = NONE;
        objectCount--;
    }

    private void dropEntry(int scope) {
        areas[scope].entries--;
        if (areas[scope].entries == 0) {
            emptyScope(scope);
        }
    }

    private void emptyScope(int scope) {
        for (int i = 0; i < OBJECT_LIMIT; i++) {
            if (cells[i].area == scope) {
                drop(i);
            }
        }
        areas[scope].parent = ROOT;
        areas[scope].portal = NONE;
    }

    private void findKept() {
        foundCount = 0;
        for (int i = 0; i < OBJECT_LIMIT; i++) {
            cells[i].kept = false;
        }
        for (int i = 0; i < STATIC_LIMIT; i++) {
            keep(statics[i]);
        }
        for (int i = 0; i < OBJECT_LIMIT; i++) {
            if (cells[i].area != NONE && cells[i].area != HEAP) {
                keepFieldsOf(i);
            }
        }
        // What is found on the way is added behind, so this goes on to any depth without recursion.
        for (int i = 0; i < foundCount && i < OBJECT_LIMIT; i++) {
            keepFieldsOf(found[i]);
        }
    }

    private void keepFieldsOf(int object) {
        Cell cell = cells[object];
        for (int i = 0; i < cell.fieldCount && i < FIELD_LIMIT; i++) {
            keep(cell.fields[i]);
        }
    }

    private void keep(int object) {
        if (!isObject(object) || cells[object].area != HEAP || cells[object].kept) {
            return;
        }
        // Never so, as each OBJECT is found once; but an index is to be looked at before it is used.
        if (foundCount >= OBJECT_LIMIT) {
            return;
        }
        cells[object].kept = true;
        found[foundCount] = object;
        foundCount++;
    }

    /** An area: the HEAP, IMMORTAL or a scope; only a scope ever has entries, a parent or a portal. */
    private static final class Area {
        private int size;
        private int used;
        private int entries;
        private int parent = ROOT;
        private int portal = NONE;

        private int free() {
            return size - used;
        }
    }

    /** The place of one OBJECT number; its area is NONE while no OBJECT has the number. */
    private static final class Cell {
        private final int[] fields = new int[FIELD_LIMIT];
        private int area = NONE;
        private int fieldCount;
        private boolean kept;

        private void fill(int newArea, int newFieldCount) {
            area = newArea;
            fieldCount = newFieldCount;
            for (int i = 0; i < FIELD_LIMIT; i++) {
                fields[i] = NONE;
            }
        }
    }

    /** The ROW of steps of one thread; it has no step while the thread is idle. */
    private static final class Row {
        private final int[] stepArea = new int[STEP_LIMIT];
        private final int[] under = new int[STEP_LIMIT];
        private final boolean[] entered = new boolean[STEP_LIMIT];
        private int length;
        private boolean heapless;

        private int top() {
            return length - 1;
        }

        private boolean isFull() {
            return length >= STEP_LIMIT;
        }

        private int currentArea() {
            return stepArea[top()];
        }

        private boolean topWasEntered() {
            return entered[top()];
        }

        private void push(int area, int underStep, boolean byEnter) {
            stepArea[length] = area;
            under[length] = underStep;
            entered[length] = byEnter;
            length++;
        }

        private void pop() {
            length--;
        }

        /** The first step of the VIEW, from the TOP, with the area; NONE if there is none. */
        private int firstWith(int area) {
            int step = top();
            for (int i = 0; i < STEP_LIMIT && step != NONE; i++) {
                if (stepArea[step] == area) {
                    return step;
                }
                step = under[step];
            }
            return NONE;
        }

        private boolean hasInView(int scope) {
            return firstWith(scope) != NONE;
        }

        private int underOfFirstWith(int scope) {
            int step = firstWith(scope);
            return step == NONE ? NONE : under[step];
        }

        private int nearestScope() {
            int step = top();
            for (int i = 0; i < STEP_LIMIT && step != NONE; i++) {
                if (stepArea[step] >= FIRST_SCOPE) {
                    return stepArea[step];
                }
                step = under[step];
            }
            return ROOT;
        }

        /** The area of the step so many under-steps below the TOP; NONE if there are not so many. */
        private int areaInView(int depth) {
            int step = top();
            for (int i = 0; i < depth && i < STEP_LIMIT && step != NONE; i++) {
                step = under[step];
            }
            return step == NONE ? NONE : stepArea[step];
        }
    }
}

import java.util.ArrayList;
import java.util.HashMap;
import java.util.HashSet;
import java.util.List;
import java.util.Map;
import java.util.Set;
import java.util.TreeMap;

/**
 * A second telling of the document, to hold the program against: nothing is counted along the way;
 * entries, room, views and what is kept are worked out anew from the steps and things each time.
 */
final class Model {
    private static final int OK = 0;
    private static final int REFUSED = -1;
    private static final int FULL = -2;
    private static final int CYCLE = -3;
    private static final int UNSEEN = -4;
    private static final int ILLEGAL = -5;
    private static final int NULL = -6;

    private static final class Step {
        final int area;
        final Step under;
        final boolean byEnter;

        Step(int area, Step under, boolean byEnter) {
            this.area = area;
            this.under = under;
            this.byEnter = byEnter;
        }
    }

    private static final class Worker {
        final boolean heapless;
        final List<Step> row = new ArrayList<>();

        Worker(boolean heapless) {
            this.heapless = heapless;
        }

        List<Step> view() {
            List<Step> steps = new ArrayList<>();
            for (Step step = row.get(row.size() - 1); step != null; step = step.under) {
                steps.add(step);
            }
            return steps;
        }

        Step firstInView(int area) {
            for (Step step : view()) {
                if (step.area == area) {
                    return step;
                }
            }
            return null;
        }

        int nearest() {
            for (Step step : view()) {
                if (step.area >= 2) {
                    return step.area;
                }
            }
            return 0;
        }
    }

    private static final class Thing {
        final int number;
        final int area;
        final Thing[] fields;

        Thing(int number, int area, int fields) {
            this.number = number;
            this.area = area;
            this.fields = new Thing[fields];
        }
    }

    private final List<Integer> sizes = new ArrayList<>();
    private final Map<Integer, Integer> parents = new HashMap<>();
    private final Map<Integer, Thing> portals = new HashMap<>();
    private final TreeMap<Integer, Thing> things = new TreeMap<>();
    private final TreeMap<Integer, Worker> workers = new TreeMap<>();
    private final Thing[] statics = new Thing[4];

    Model(int heap, int immortal) {
        sizes.add(heap < 4 ? 4 : heap > 60 ? 60 : heap);
        sizes.add(immortal < 4 ? 4 : immortal > 60 ? 60 : immortal);
    }

    int scope(int size) {
        if (size < 1 || size > 40) {
            return REFUSED;
        }
        if (sizes.size() == 10) {
            return FULL;
        }
        sizes.add(size);
        return sizes.size() - 1;
    }

    int begin(int thread, boolean heapless) {
        if (thread < 0 || thread > 3 || workers.containsKey(thread)) {
            return REFUSED;
        }
        Worker worker = new Worker(heapless);
        worker.row.add(new Step(heapless ? 1 : 0, null, false));
        workers.put(thread, worker);
        return OK;
    }

    int enter(int thread, int scope) {
        Worker worker = workers.get(thread);
        if (worker == null || noScope(scope)) {
            return REFUSED;
        }
        if (worker.firstInView(scope) != null) {
            return CYCLE;
        }
        if (entriesOf(scope) > 0 && parents.get(scope) != worker.nearest()) {
            return CYCLE;
        }
        if (worker.row.size() == 12) {
            return FULL;
        }
        if (entriesOf(scope) == 0) {
            parents.put(scope, worker.nearest());
        }
        worker.row.add(new Step(scope, worker.row.get(worker.row.size() - 1), true));
        return entriesOf(scope);
    }

    int turn(int thread, int area) {
        Worker worker = workers.get(thread);
        if (worker == null || noArea(area)) {
            return REFUSED;
        }
        Step under = null;
        if (area == 0 && worker.heapless) {
            return ILLEGAL;
        }
        if (area >= 2) {
            Step first = worker.firstInView(area);
            if (first == null) {
                return UNSEEN;
            }
            under = first.under;
        }
        if (worker.row.size() == 12) {
            return FULL;
        }
        worker.row.add(new Step(area, under, false));
        return worker.row.size();
    }

    int leave(int thread) {
        Worker worker = workers.get(thread);
        if (worker == null) {
            return REFUSED;
        }
        Step gone = worker.row.remove(worker.row.size() - 1);
        if (worker.row.isEmpty()) {
            workers.remove(thread);
        }
        if (gone.byEnter && entriesOf(gone.area) == 0) {
            things.values().removeIf(thing -> thing.area == gone.area);
            parents.remove(gone.area);
            portals.remove(gone.area);
        }
        return worker.row.size();
    }

    int make(int thread, int fields) {
        Worker worker = workers.get(thread);
        if (worker == null || fields < 0 || fields > 4) {
            return REFUSED;
        }
        int area = worker.view().get(0).area;
        if (things.size() == 40 || roomOf(area) < fields + 1) {
            return FULL;
        }
        int number = 0;
        while (things.containsKey(number)) {
            number++;
        }
        things.put(number, new Thing(number, area, fields));
        return number;
    }

    int put(int thread, int object, int field, int target) {
        Worker worker = workers.get(thread);
        Thing thing = things.get(object);
        Thing held = things.get(target);
        if (worker == null || thing == null || held == null && target != -1) {
            return REFUSED;
        }
        if (field < 0 || field >= thing.fields.length) {
            return REFUSED;
        }
        if (!sees(worker, thing) || held != null && !sees(worker, held)) {
            return UNSEEN;
        }
        if (held != null && held.area >= 2 && !(thing.area >= 2 && liesIn(thing.area, held.area))) {
            return ILLEGAL;
        }
        thing.fields[field] = held;
        return OK;
    }

    int get(int thread, int object, int field) {
        Worker worker = workers.get(thread);
        Thing thing = things.get(object);
        if (worker == null || thing == null || field < 0 || field >= thing.fields.length) {
            return REFUSED;
        }
        Thing held = thing.fields[field];
        if (!sees(worker, thing)) {
            return UNSEEN;
        }
        if (held == null) {
            return NULL;
        }
        return sees(worker, held) ? held.number : UNSEEN;
    }

    int hang(int thread, int scope, int object) {
        Worker worker = workers.get(thread);
        Thing thing = things.get(object);
        if (worker == null || noScope(scope) || thing == null && object != -1) {
            return REFUSED;
        }
        if (worker.firstInView(scope) == null || thing != null && !sees(worker, thing)) {
            return UNSEEN;
        }
        if (thing != null && thing.area != scope) {
            return ILLEGAL;
        }
        portals.put(scope, thing);
        return OK;
    }

    int portal(int thread, int scope) {
        Worker worker = workers.get(thread);
        if (worker == null || noScope(scope)) {
            return REFUSED;
        }
        if (worker.firstInView(scope) == null) {
            return UNSEEN;
        }
        Thing thing = portals.get(scope);
        return thing == null ? NULL : thing.number;
    }

    int assign(int thread, int k, int object) {
        Worker worker = workers.get(thread);
        Thing thing = things.get(object);
        if (worker == null || k < 0 || k > 3 || thing == null && object != -1) {
            return REFUSED;
        }
        if (thing != null && !sees(worker, thing)) {
            return UNSEEN;
        }
        if (thing != null && thing.area >= 2) {
            return ILLEGAL;
        }
        statics[k] = thing;
        return OK;
    }

    int collect() {
        Set<Thing> kept = kept();
        int before = things.size();
        things.values().removeIf(thing -> thing.area == 0 && !kept.contains(thing));
        return before - things.size();
    }

    int areaOf(int object) {
        Thing thing = things.get(object);
        return thing == null ? REFUSED : thing.area;
    }

    int room(int area) {
        return noArea(area) ? REFUSED : roomOf(area);
    }

    int parent(int scope) {
        if (noScope(scope)) {
            return REFUSED;
        }
        return entriesOf(scope) == 0 ? NULL : parents.get(scope);
    }

    int entries(int scope) {
        return noScope(scope) ? REFUSED : entriesOf(scope);
    }

    int view(int thread, int i) {
        Worker worker = workers.get(thread);
        if (worker == null || i < 0 || i >= worker.view().size()) {
            return REFUSED;
        }
        return worker.view().get(i).area;
    }

    int count(int what) {
        if (what >= 4 && what <= 7) {
            Thing thing = statics[what - 4];
            return thing == null ? NULL : thing.number;
        }
        return what == 0 ? things.size()
            : what == 1 ? sizes.size()
            : what == 2 ? workers.size()
            : what == 3 ? kept().size()
            : REFUSED;
    }

    /** Whether anything that is there holds a thing that is not: what the refusals are to rule out. */
    boolean dangles() {
        Set<Thing> there = new HashSet<>(things.values());
        there.add(null);
        for (Thing thing : things.values()) {
            for (Thing held : thing.fields) {
                if (!there.contains(held)) {
                    return true;
                }
            }
        }
        for (Thing held : statics) {
            if (!there.contains(held)) {
                return true;
            }
        }
        return !there.containsAll(portals.values());
    }

    private boolean noArea(int area) {
        return area < 0 || area >= sizes.size();
    }

    private boolean noScope(int area) {
        return area < 2 || noArea(area);
    }

    private int entriesOf(int scope) {
        int entries = 0;
        for (Worker worker : workers.values()) {
            for (Step step : worker.row) {
                if (step.byEnter && step.area == scope) {
                    entries++;
                }
            }
        }
        return entries;
    }

    private int roomOf(int area) {
        int room = sizes.get(area);
        for (Thing thing : things.values()) {
            if (thing.area == area) {
                room -= 1 + thing.fields.length;
            }
        }
        return room;
    }

    private boolean liesIn(int scope, int other) {
        if (scope == other) {
            return true;
        }
        int parent = parents.getOrDefault(scope, 0);
        return parent != 0 && liesIn(parent, other);
    }

    private boolean sees(Worker worker, Thing thing) {
        if (thing.area == 0) {
            return !worker.heapless;
        }
        return thing.area == 1 || worker.firstInView(thing.area) != null;
    }

    private Set<Thing> kept() {
        Set<Thing> reached = new HashSet<>();
        for (Thing held : statics) {
            reach(held, reached);
        }
        for (Thing thing : things.values()) {
            if (thing.area != 0) {
                reach(thing, reached);
            }
        }
        reached.removeIf(thing -> thing.area != 0);
        return reached;
    }

    private static void reach(Thing thing, Set<Thing> reached) {
        if (thing != null && reached.add(thing)) {
            for (Thing held : thing.fields) {
                reach(held, reached);
            }
        }
    }
}

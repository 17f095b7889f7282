import java.util.ArrayList;
import java.util.List;

/**
 * Two objects with the same calls behind them, but for one call more that is due to change nothing.
 * They are asked all that can be asked, now and after each of many calls that could come next (what
 * lies lower in a ROW shows after leave only), and have to answer alike. How the state is held is
 * free, so it is not looked at.
 */
final class Twins {
    /** What an object answers after so many calls is free. */
    static final int MOST_CALLS = 512;
    private static final int THREADS = 4;
    private static final int AREAS = 10;
    private static final int OBJECTS = 40;
    private static final int FIELDS = 4;
    private static final int STEPS = 12;
    /** Enough to leave every thread and to ask on; a run that has fewer calls left can't be looked into. */
    private static final int CALLS_NEEDED = 64;

    private final Call maker;
    private final List<Call> before;
    private final Call extra;
    private List<Call> next = List.of();
    private ScopedMemory without;
    private ScopedMemory with;
    private int used;
    private String difference = "";

    Twins(Call maker, List<Call> before, Call extra) {
        this.maker = maker;
        this.before = before;
        this.extra = extra;
    }

    /** What shows that the extra call has changed something; empty if nothing does. */
    String difference() {
        if (before.size() + CALLS_NEEDED > MOST_CALLS) {
            return "";
        }
        for (List<Call> calls : callsThatCouldBeNext()) {
            next = calls;
            renew();
            askAll();
            if (!difference.isEmpty()) {
                return difference;
            }
        }
        return "";
    }

    private List<List<Call>> callsThatCouldBeNext() {
        renew();
        List<List<Call>> all = new ArrayList<>();
        all.add(List.of());
        all.add(List.of(new Call("collect")));
        for (int thread = 0; thread < THREADS; thread++) {
            if (without.view(thread, 0) < 0) {
                all.add(List.of(new Call("begin", thread, 0)));
                continue;
            }
            List<Call> leaves = new ArrayList<>();
            while (without.leave(thread) >= 0 && leaves.size() < STEPS) {
                leaves.add(new Call("leave", thread));
                all.add(List.copyOf(leaves));
            }
            all.add(List.of(new Call("make", thread, 0)));
            for (int area = 0; area < AREAS; area++) {
                all.add(List.of(new Call("turn", thread, area)));
                all.add(List.of(new Call("enter", thread, area)));
            }
        }
        return all;
    }

    private void renew() {
        without = maker.make();
        with = maker.make();
        for (Call call : before) {
            call.on(without);
            call.on(with);
        }
        extra.on(with);
        used = before.size() + 1;
        for (Call call : next) {
            compare(call);
        }
    }

    private void askAll() {
        for (int what = 0; what < 8; what++) {
            ask("count", what);
        }
        for (int area = 0; area < AREAS; area++) {
            ask("room", area);
            ask("parent", area);
            ask("entries", area);
        }
        for (int thread = 0; thread < THREADS; thread++) {
            if (ask("view", thread, 0) < 0) {
                continue;
            }
            for (int i = 1; i < STEPS && ask("view", thread, i) >= 0; i++) {
                continue;
            }
            for (int area = 2; area < AREAS; area++) {
                ask("portal", thread, area);
            }
        }
        for (int object = 0; object < OBJECTS; object++) {
            if (ask("areaOf", object) >= 0) {
                askFields(object);
            }
        }
    }

    private void askFields(int object) {
        for (int thread = 0; thread < THREADS; thread++) {
            for (int field = 0; field < FIELDS && ask("get", thread, object, field) != -1; field++) {
                continue;
            }
        }
    }

    private int ask(String name, int... arguments) {
        if (used >= MOST_CALLS) {
            renew();
        }
        return compare(new Call(name, arguments));
    }

    private int compare(Call call) {
        used++;
        int due = call.on(without);
        int got = call.on(with);
        if (due != got && difference.isEmpty()) {
            difference = next + " and then " + call + " answered " + got + ", without it " + due;
        }
        return due;
    }
}

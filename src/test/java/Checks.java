/** Counts the answers that are not as due, and tells each of them. */
final class Checks {
    private int made;
    private int wrong;
    private String part = "";

    void part(String name) {
        part = name;
    }

    void due(String call, long got, long want) {
        made++;
        if (got != want) {
            tell(call + " answered " + got + ", due is " + want);
        }
    }

    void same(String what, String got, String want) {
        made++;
        if (!got.equals(want)) {
            tell(what + " is \"" + got + "\", due is \"" + want + "\"");
        }
    }

    void holds(String what, boolean so) {
        made++;
        if (!so) {
            tell(what + " does not hold");
        }
    }

    boolean anyWrong() {
        return wrong != 0;
    }

    void end() {
        System.out.println(made + " checks, " + wrong + " wrong");
        if (made == 0 || wrong != 0) {
            System.exit(1);
        }
    }

    private void tell(String text) {
        wrong++;
        System.out.println(part + ": " + text);
    }
}

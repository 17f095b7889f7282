import java.lang.reflect.Constructor;
import java.lang.reflect.Field;
import java.lang.reflect.Method;
import java.lang.reflect.Modifier;
import java.nio.file.Files;
import java.nio.file.Path;
import java.util.Arrays;
import java.util.List;
import java.util.TreeSet;

/** The class shows the document's face and nothing else. */
public final class FaceTest {
    private static final Path DOCUMENT = Path.of("../shared/DOC.md");
    private static final Path PROGRAM = Path.of("src/main/java/ScopedMemory.java");
    private static final String[] METHODS = {
        "scope(int)", "begin(int,boolean)", "enter(int,int)", "turn(int,int)", "leave(int)", "make(int,int)",
        "put(int,int,int,int)", "get(int,int,int)", "hang(int,int,int)", "portal(int,int)", "assign(int,int,int)",
        "collect()", "areaOf(int)", "room(int)", "parent(int)", "entries(int)", "view(int,int)", "count(int)",
    };
    private static final String[] CONSTANTS = {
        "OK=0", "REFUSED=-1", "FULL=-2", "CYCLE=-3", "UNSEEN=-4", "ILLEGAL=-5", "NULL=-6",
    };

    public static void main(String[] args) throws Exception {
        Checks checks = new Checks();
        checks.part("face");
        int kind = ScopedMemory.class.getModifiers();
        checks.holds("public and final", Modifier.isPublic(kind) && Modifier.isFinal(kind));
        checks.same("methods", shownMethods(checks).toString(), sorted(METHODS));
        checks.same("constants", shownConstants(checks).toString(), sorted(CONSTANTS));
        checkConstructors(checks);
        checkClassesInside(checks);
        checkWords(checks);
        checks.end();
    }

    private static String sorted(String[] names) {
        return new TreeSet<>(Arrays.asList(names)).toString();
    }

    private static TreeSet<String> shownMethods(Checks checks) {
        TreeSet<String> shown = new TreeSet<>();
        TreeSet<String> hidden = new TreeSet<>();
        for (Method method : ScopedMemory.class.getDeclaredMethods()) {
            if (Modifier.isPrivate(method.getModifiers())) {
                hidden.add(method.getName());
                continue;
            }
            checks.holds(method + " is public and answers int",
                Modifier.isPublic(method.getModifiers()) && !Modifier.isStatic(method.getModifiers())
                    && method.getReturnType() == int.class);
            shown.add(method.getName() + parameters(method.getParameterTypes()));
        }
        for (String name : METHODS) {
            checks.holds("no private " + name, !hidden.contains(name.substring(0, name.indexOf('('))));
        }
        return shown;
    }

    private static TreeSet<String> shownConstants(Checks checks) throws Exception {
        TreeSet<String> shown = new TreeSet<>();
        for (Field field : ScopedMemory.class.getDeclaredFields()) {
            int kind = field.getModifiers();
            checks.holds(field + " is final if static", !Modifier.isStatic(kind) || Modifier.isFinal(kind));
            if (!Modifier.isPrivate(kind)) {
                checks.holds(field + " is a public constant",
                    Modifier.isPublic(kind) && Modifier.isStatic(kind) && field.getType() == int.class);
                shown.add(field.getName() + "=" + field.getInt(null));
            }
        }
        return shown;
    }

    private static void checkConstructors(Checks checks) {
        Constructor<?>[] all = ScopedMemory.class.getDeclaredConstructors();
        checks.due("constructors", all.length, 1);
        checks.holds("the constructor is public", Modifier.isPublic(all[0].getModifiers()));
        checks.same("its parameters", parameters(all[0].getParameterTypes()), "(int,int)");
    }

    private static void checkClassesInside(Checks checks) {
        for (Class<?> inside : ScopedMemory.class.getDeclaredClasses()) {
            int kind = inside.getModifiers();
            checks.holds(inside + " is static and not shown",
                Modifier.isStatic(kind) && !Modifier.isPublic(kind) && !Modifier.isProtected(kind));
        }
    }

    /** Each line of the document's face stands in the program, with the names of the parameters. */
    private static void checkWords(Checks checks) throws Exception {
        if (!Files.exists(DOCUMENT)) {
            System.out.println("there is no " + DOCUMENT + " to hold the face against");
            return;
        }
        List<String> program = Files.readAllLines(PROGRAM);
        String face = Files.readString(DOCUMENT).split("```java\n|```")[1];
        for (String line : face.split("\n")) {
            String due = line.endsWith(");") ? line.replace(");", ") {") : line;
            checks.holds("that the program says \"" + due.trim() + "\"", program.contains(due));
        }
    }

    private static String parameters(Class<?>[] types) {
        StringBuilder text = new StringBuilder("(");
        for (int i = 0; i < types.length; i++) {
            text.append(i == 0 ? "" : ",").append(types[i].getName());
        }
        return text.append(")").toString();
    }
}

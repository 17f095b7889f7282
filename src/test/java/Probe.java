import java.lang.reflect.Array;
import java.lang.reflect.Field;
import java.lang.reflect.Modifier;

/**
 * All that an object holds, as one text. It is read without a call: an object answers for 512 calls
 * only, and what no thread sees can't be asked for.
 */
final class Probe {
    private static final int DEEPEST = 10;

    private Probe() {
    }

    static String state(Object object) {
        StringBuilder text = new StringBuilder();
        append(text, object, 0);
        return text.toString();
    }

    private static void append(StringBuilder text, Object value, int depth) {
        if (depth > DEEPEST) {
            throw new IllegalStateException("the state goes too deep to be told");
        }
        if (value == null || value instanceof Number || value instanceof Boolean || value instanceof Character
            || value instanceof String) {
            text.append(value);
        } else if (value.getClass().isArray()) {
            appendElements(text, value, depth);
        } else {
            appendFields(text, value, depth);
        }
    }

    private static void appendElements(StringBuilder text, Object array, int depth) {
        text.append('[');
        for (int i = 0; i < Array.getLength(array); i++) {
            text.append(' ');
            append(text, Array.get(array, i), depth + 1);
        }
        text.append(" ]");
    }

    private static void appendFields(StringBuilder text, Object object, int depth) {
        text.append('{');
        for (Field field : object.getClass().getDeclaredFields()) {
            if (!Modifier.isStatic(field.getModifiers())) {
                text.append(' ').append(field.getName()).append('=');
                append(text, valueOf(field, object), depth + 1);
            }
        }
        text.append(" }");
    }

    private static Object valueOf(Field field, Object object) {
        try {
            field.setAccessible(true);
            return field.get(object);
        } catch (IllegalAccessException e) {
            throw new IllegalStateException(e);
        }
    }
}

import java.lang.reflect.Array;
import java.lang.reflect.Field;
import java.lang.reflect.Modifier;

/** All that an object holds, as text, so that a call which must change nothing can be seen to change nothing. */
final class State {
    private State() {
    }

    static String of(Object whole) {
        StringBuilder text = new StringBuilder();
        try {
            addObject(text, whole);
        } catch (IllegalAccessException e) {
            throw new AssertionError(e);
        }
        return text.toString();
    }

    private static void addObject(StringBuilder text, Object whole) throws IllegalAccessException {
        for (Field field : whole.getClass().getDeclaredFields()) {
            if (!Modifier.isStatic(field.getModifiers()) && !field.isSynthetic()) {
                field.setAccessible(true);
                text.append(' ').append(field.getName()).append('=');
                addValue(text, field.get(whole));
            }
        }
    }

    private static void addValue(StringBuilder text, Object value) throws IllegalAccessException {
        if (value != null && value.getClass().isArray()) {
            for (int i = 0; i < Array.getLength(value); i++) {
                addValue(text, Array.get(value, i));
                text.append(',');
            }
        } else if (value != null && value.getClass().getName().startsWith("LockQuorum")) {
            text.append('{');
            addObject(text, value);
            text.append('}');
        } else {
            text.append(value);
        }
    }
}

import java.lang.reflect.Array;
import java.lang.reflect.Field;
import java.lang.reflect.Modifier;

/** All that an object holds, as a text: also what no call of the face tells. */
final class State {
    private State() {
    }

    static String of(Object object) {
        StringBuilder text = new StringBuilder();
        write(object, text);
        return text.toString();
    }

    private static void write(Object object, StringBuilder text) {
        if (object == null || object instanceof Number || object instanceof Boolean || object instanceof Character
                || object instanceof String) {
            text.append(object).append(' ');
        } else if (object.getClass().isArray()) {
            text.append('[');
            for (int i = 0; i < Array.getLength(object); i++) {
                write(Array.get(object, i), text);
            }
            text.append(']');
        } else {
            writeFields(object, text);
        }
    }

    private static void writeFields(Object object, StringBuilder text) {
        text.append('{');
        for (Field field : object.getClass().getDeclaredFields()) {
            if (!Modifier.isStatic(field.getModifiers())) {
                text.append(field.getName()).append('=');
                write(valueOf(field, object), text);
            }
        }
        text.append('}');
    }

    private static Object valueOf(Field field, Object object) {
        try {
            field.setAccessible(true);
            return field.get(object);
        } catch (IllegalAccessException e) {
            throw new AssertionError(e);
        }
    }
}

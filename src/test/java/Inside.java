import java.lang.reflect.Array;
import java.lang.reflect.Field;
import java.lang.reflect.Modifier;
import java.util.IdentityHashMap;
import java.util.List;

/**
 * All that a house holds inside, as a text: a call that throws leaves it as it was. Looking inside is no call, of which
 * an object has 512.
 */
final class Inside {
    private final StringBuilder text = new StringBuilder();
    private final IdentityHashMap<Object, Integer> seen = new IdentityHashMap<>();

    private Inside() {
    }

    static String of(Vivahouse house) {
        Inside inside = new Inside();
        inside.write(house);
        return inside.text.toString();
    }

    private void write(Object value) {
        if (value == null || value instanceof Number || value instanceof Character || value instanceof Boolean) {
            text.append(value);
        } else if (seen.containsKey(value)) {
            text.append('#').append(seen.get(value));
        } else {
            seen.put(value, seen.size());
            writeParts(value);
        }
    }

    private void writeParts(Object value) {
        text.append('(');
        if (value instanceof List) {
            for (Object part : (List<?>) value) {
                write(part);
                text.append(' ');
            }
        } else if (value.getClass().isArray()) {
            for (int i = 0; i < Array.getLength(value); i++) {
                write(Array.get(value, i));
                text.append(' ');
            }
        } else {
            writeFields(value);
        }
        text.append(')');
    }

    private void writeFields(Object owner) {
        for (Field field : owner.getClass().getDeclaredFields()) {
            if (!Modifier.isStatic(field.getModifiers())) {
                field.setAccessible(true);
                text.append(field.getName()).append('=');
                try {
                    write(field.get(owner));
                } catch (IllegalAccessException e) {
                    throw new IllegalStateException(e);
                }
                text.append(' ');
            }
        }
    }
}

import java.lang.reflect.Array;
import java.lang.reflect.Field;
import java.lang.reflect.Modifier;
import java.util.HashMap;
import java.util.IdentityHashMap;
import java.util.Map;

/**
 * Writes down all that a FreePort holds, the fields of its rows too: what is the same inside answers the same from
 * then on, also what no question tells, as the terms of a consignment. Unlike a Look it spends no calls.
 */
final class Inside {
    private static final Map<Class<?>, Field[]> FIELDS = new HashMap<>();

    private final Map<Object, Integer> seen = new IdentityHashMap<>();
    private final StringBuilder text = new StringBuilder();

    private Inside() {
    }

    static String of(FreePort port) {
        Inside inside = new Inside();
        inside.add(port);
        return inside.text.toString();
    }

    private void add(Object value) {
        if (value == null || value instanceof Number || value instanceof Boolean || value instanceof Character
                || value instanceof String) {
            text.append(value).append(' ');
            return;
        }
        Integer number = seen.putIfAbsent(value, seen.size());
        if (number != null) {
            text.append('#').append(number).append(' ');
            return;
        }
        text.append(value.getClass().getSimpleName()).append('(');
        if (value.getClass().isArray()) {
            addElements(value);
        } else {
            addFields(value);
        }
        text.append(") ");
    }

    private void addElements(Object array) {
        for (int i = 0; i < Array.getLength(array); i++) {
            add(Array.get(array, i));
        }
    }

    private void addFields(Object row) {
        try {
            for (Field field : FIELDS.computeIfAbsent(row.getClass(), Inside::fieldsOf)) {
                if (!Modifier.isStatic(field.getModifiers())) {
                    text.append(field.getName()).append(' ');
                    add(field.get(row));
                }
            }
        } catch (IllegalAccessException e) {
            throw new IllegalStateException(e);
        }
    }

    private static Field[] fieldsOf(Class<?> kind) {
        Field[] fields = kind.getDeclaredFields();
        for (Field field : fields) {
            field.setAccessible(true);
        }
        return fields;
    }
}

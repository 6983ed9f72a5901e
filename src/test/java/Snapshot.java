import java.lang.reflect.Field;
import java.lang.reflect.Modifier;
import java.util.ArrayList;
import java.util.Arrays;
import java.util.HashMap;
import java.util.List;
import java.util.Map;

/** All that an object holds, as a text, so that a call can be seen to have changed nothing at all. */
final class Snapshot {
    private static final Map<Class<?>, List<Field>> FIELDS = new HashMap<>();

    private Snapshot() {
    }

    static String of(Object object) {
        StringBuilder text = new StringBuilder();
        add(text, object);
        return text.toString();
    }

    private static void add(StringBuilder text, Object value) {
        if (value instanceof int[]) {
            text.append(Arrays.hashCode((int[]) value)).append(' ');
        } else if (value instanceof char[]) {
            text.append(Arrays.hashCode((char[]) value)).append(' ');
        } else if (value instanceof List) {
            text.append('(');
            for (Object element : (List<?>) value) {
                add(text, element);
            }
            text.append(')');
        } else if (value == null || value.getClass().getName().startsWith("java.")) {
            text.append(value).append(' ');
        } else if (value.getClass().isArray()) {
            throw new IllegalStateException("an array of another kind is to be told here");
        } else {
            addFields(text, value);
        }
    }

    private static void addFields(StringBuilder text, Object object) {
        text.append('{');
        try {
            for (Field field : FIELDS.computeIfAbsent(object.getClass(), Snapshot::fieldsOf)) {
                add(text, field.get(object));
            }
        } catch (IllegalAccessException e) {
            throw new IllegalStateException(e);
        }
        text.append('}');
    }

    private static List<Field> fieldsOf(Class<?> kind) {
        List<Field> all = new ArrayList<>();
        for (Field field : kind.getDeclaredFields()) {
            if (!Modifier.isStatic(field.getModifiers())) {
                field.setAccessible(true);
                all.add(field);
            }
        }
        return all;
    }
}

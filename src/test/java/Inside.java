import java.lang.reflect.Array;
import java.lang.reflect.Field;
import java.lang.reflect.Modifier;
import java.util.Arrays;
import java.util.HashMap;
import java.util.Map;
import java.util.Set;

/** All that an object holds, as one text: a refused call leaves it as it was, down to what no call tells. */
final class Inside {
    /** Written anew ahead of each use, so that what stands there tells nothing. */
    private static final Set<String> SCRATCH = Set.of("facts", "aside");
    private static final Map<Class<?>, Field[]> FIELDS = new HashMap<>();

    private Inside() {
    }

    static String of(Object object) {
        StringBuilder text = new StringBuilder();
        try {
            tell(object, text);
        } catch (IllegalAccessException closed) {
            throw new IllegalStateException(closed);
        }
        return text.toString();
    }

    private static void tell(Object object, StringBuilder text) throws IllegalAccessException {
        if (object == null || object instanceof Number || object instanceof Boolean) {
            text.append(object).append(' ');
        } else if (object instanceof int[] numbers) {
            for (int number : numbers) {
                text.append(number).append(' ');
            }
        } else if (object.getClass().isArray()) {
            for (int i = 0; i < Array.getLength(object); i++) {
                tell(Array.get(object, i), text);
            }
        } else {
            for (Field field : FIELDS.computeIfAbsent(object.getClass(), Inside::fieldsOf)) {
                tell(field.get(object), text);
            }
        }
    }

    private static Field[] fieldsOf(Class<?> type) {
        Field[] fields = Arrays.stream(type.getDeclaredFields())
                .filter(field -> !Modifier.isStatic(field.getModifiers()) && !SCRATCH.contains(field.getName()))
                .toArray(Field[]::new);
        for (Field field : fields) {
            field.setAccessible(true);
        }
        return fields;
    }
}

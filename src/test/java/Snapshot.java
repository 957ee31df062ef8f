import java.lang.reflect.Array;
import java.lang.reflect.Field;
import java.lang.reflect.Modifier;
import java.util.Arrays;

/** All that an object holds, read field by field, so that a call which is to change nothing can be checked. */
final class Snapshot {
    private Snapshot() {
    }

    static String of(FairwayChancery x) {
        StringBuilder told = new StringBuilder();
        try {
            add(told, x);
        } catch (IllegalAccessException e) {
            throw new AssertionError(e);
        }
        return told.toString();
    }

    private static void add(StringBuilder told, Object of) throws IllegalAccessException {
        for (Field field : of.getClass().getDeclaredFields()) {
            if (Modifier.isStatic(field.getModifiers())) {
                continue;
            }
            field.setAccessible(true);
            Object value = field.get(of);
            told.append(field.getName()).append('=');
            if (value instanceof char[]) {
                told.append((char[]) value);
            } else if (value instanceof int[]) {
                told.append(Arrays.toString((int[]) value));
            } else if (value.getClass().isArray()) {
                for (int i = 0; i < Array.getLength(value); i++) {
                    add(told, Array.get(value, i));
                }
            } else if (field.getType().isPrimitive()) {
                told.append(value);
            } else {
                add(told, value);
            }
            told.append(';');
        }
    }
}

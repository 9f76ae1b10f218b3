import java.lang.reflect.Array;
import java.lang.reflect.Field;
import java.lang.reflect.Modifier;
import java.util.ArrayList;
import java.util.IdentityHashMap;
import java.util.List;
import java.util.Map;

/** Reads all private fields of an object, without calling it: for tests that a call changes nothing. */
final class State {
    private final StringBuilder text = new StringBuilder();
    private final Map<Object, Integer> seen = new IdentityHashMap<>();
    private long elements = 0;

    private State() {
    }

    /** The whole state as a text. */
    static String of(Tubepost x) {
        State state = new State();
        state.walk(x);
        return state.text.toString();
    }

    /** How many objects and arrays the object holds, and how many fields and elements these have. */
    static long[] sizeOf(Tubepost x) {
        State state = new State();
        state.walk(x);
        return new long[] {state.seen.size(), state.elements};
    }

    private void walk(Object value) {
        if (value == null || value instanceof Number || value instanceof Character || value instanceof Boolean) {
            text.append(value).append(' ');
            return;
        }
        Integer known = seen.get(value);
        if (known != null) {
            text.append('@').append(known).append(' ');
            return;
        }
        seen.put(value, seen.size());
        if (value instanceof int[]) {
            elements += ((int[]) value).length;
            text.append(java.util.Arrays.hashCode((int[]) value)).append(' ');
        } else if (value.getClass().isArray()) {
            walkArray(value);
        } else if (value instanceof List) {
            List<?> list = new ArrayList<>((List<?>) value);
            elements += list.size();
            text.append('[');
            for (Object one : list) {
                walk(one);
            }
            text.append(']');
        } else {
            walkFields(value);
        }
    }

    private void walkArray(Object value) {
        int length = Array.getLength(value);
        elements += length;
        text.append('{');
        for (int i = 0; i < length; i++) {
            Object one = Array.get(value, i);
            if (one != null) {
                text.append(i).append(':');
                walk(one);
            }
        }
        text.append('}');
    }

    private void walkFields(Object value) {
        text.append('(');
        for (Field field : value.getClass().getDeclaredFields()) {
            if (Modifier.isStatic(field.getModifiers())) {
                continue;
            }
            elements++;
            field.setAccessible(true);
            try {
                walk(field.get(value));
            } catch (IllegalAccessException e) {
                throw new IllegalStateException(e);
            }
        }
        text.append(')');
    }
}

import java.lang.reflect.Array;
import java.lang.reflect.Field;
import java.lang.reflect.Modifier;
import java.util.IdentityHashMap;
import java.util.Map;

/** All fields of a house, and of all that it holds, as a text: two houses are in the same state if theirs are alike. */
final class Snapshot {
    private final Map<Object, Integer> seen = new IdentityHashMap<>();
    private final StringBuilder text = new StringBuilder();

    private Snapshot() {
    }

    static String of(AquatintHouse house) {
        Snapshot snapshot = new Snapshot();
        try {
            snapshot.tell(house);
        } catch (IllegalAccessException e) {
            throw new IllegalStateException(e);
        }
        return snapshot.text.toString();
    }

    private void tell(Object object) throws IllegalAccessException {
        if (object == null || object.getClass().getName().startsWith("java.")) {
            text.append(object).append(' ');
        } else if (seen.containsKey(object)) {
            text.append('#').append(seen.get(object)).append(' ');
        } else {
            seen.put(object, seen.size());
            text.append(object.getClass().getSimpleName()).append('{');
            if (object.getClass().isArray()) {
                for (int i = 0; i < Array.getLength(object); i++) {
                    tell(Array.get(object, i));
                }
            } else {
                tellFields(object);
            }
            text.append('}');
        }
    }

    private void tellFields(Object object) throws IllegalAccessException {
        for (Field field : object.getClass().getDeclaredFields()) {
            if (!Modifier.isStatic(field.getModifiers())) {
                field.setAccessible(true);
                text.append(field.getName()).append(' ');
                tell(field.get(object));
            }
        }
    }
}

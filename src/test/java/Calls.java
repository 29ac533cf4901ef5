import java.lang.reflect.InvocationTargetException;
import java.lang.reflect.Method;
import java.lang.reflect.Modifier;
import java.util.ArrayList;
import java.util.HashMap;
import java.util.List;
import java.util.Map;

/** Calls of a house that are written as the document writes them: name(1, 'a', true) = answer. */
final class Calls {
    private static final Map<String, Method> METHODS = new HashMap<>();

    static {
        for (Class<?> type : new Class<?>[] {AquatintHouse.class, ModelHouse.class}) {
            for (Method method : type.getDeclaredMethods()) {
                if (Modifier.isPublic(method.getModifiers())) {
                    METHODS.put(type.getName() + " " + method.getName(), method);
                }
            }
        }
    }

    private Calls() {
    }

    /** A row of calls, each told once: "5 times: a(); b()" is ten. */
    static List<String> spread(String row) {
        List<String> calls = new ArrayList<>();
        if (!row.contains(" times: ")) {
            calls.add(row);
            return calls;
        }
        String[] parts = row.split(" times: ");
        for (int i = 0; i < Integer.parseInt(parts[0]); i++) {
            for (String call : parts[1].split(";")) {
                calls.add(call.trim());
            }
        }
        return calls;
    }

    static String name(String call) {
        return call.substring(0, call.indexOf('(')).trim();
    }

    /** The answer of a house, or its model, as a text, with an f behind a float; "throws X" if the call throws X. */
    static String answer(Object house, String call) {
        Method method = METHODS.get(house.getClass().getName() + " " + name(call));
        if (method == null) {
            throw new IllegalStateException("no such method: " + call);
        }
        try {
            Object answer = method.invoke(house, arguments(method, call));
            return answer instanceof Float ? answer + "f" : String.valueOf(answer);
        } catch (InvocationTargetException e) {
            return "throws " + e.getCause().getClass().getSimpleName();
        } catch (IllegalAccessException e) {
            throw new IllegalStateException(e);
        }
    }

    /** Whether an answer is the one that is due: true and false may be told as 1 and 0. */
    static boolean isLike(String answer, String due) {
        String told = due.replace("throws.", "throws ");
        if (answer.equals("true") || answer.equals("false")) {
            return told.equals(answer) || told.equals(answer.equals("true") ? "1" : "0");
        }
        if (told.startsWith("throws") || !answer.contains(".")) {
            return answer.equals(told);
        }
        return answer.endsWith("f") ? Float.parseFloat(answer) == Float.parseFloat(told)
            : Double.parseDouble(answer) == Double.parseDouble(told);
    }

    private static Object[] arguments(Method method, String call) {
        String inside = call.substring(call.indexOf('(') + 1, call.lastIndexOf(')')).trim();
        List<Object> arguments = new ArrayList<>();
        Class<?>[] types = method.getParameterTypes();
        String[] parts = inside.isEmpty() ? new String[0] : inside.split(",");
        if (parts.length != types.length) {
            throw new IllegalStateException("another number of arguments is due: " + call);
        }
        for (int i = 0; i < types.length; i++) {
            arguments.add(argument(types[i], parts[i].trim()));
        }
        return arguments.toArray();
    }

    private static Object argument(Class<?> type, String part) {
        if (type == char.class) {
            return part.startsWith("'") ? part.charAt(1) : (char) Integer.parseInt(part);
        }
        if (type == boolean.class) {
            return part.equals("true");
        }
        return Integer.valueOf(part);
    }
}

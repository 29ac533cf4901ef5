import java.lang.reflect.InvocationTargetException;
import java.lang.reflect.Method;
import java.util.ArrayList;
import java.util.HashMap;
import java.util.List;
import java.util.Map;

/** Calls of the house that are written as the document writes them: name(1, 'a', true) = answer. */
final class Calls {
    private static final Map<String, Method> METHODS = new HashMap<>();

    static {
        for (Method method : AquatintHouse.class.getDeclaredMethods()) {
            if (java.lang.reflect.Modifier.isPublic(method.getModifiers())) {
                METHODS.put(method.getName(), method);
            }
        }
    }

    private Calls() {
    }

    /** The answer as a text, with an f behind a float; "throws X" if the call throws X. */
    static String answer(AquatintHouse house, String call) {
        Method method = METHODS.get(call.substring(0, call.indexOf('(')).trim());
        if (method == null) {
            throw new IllegalStateException("no such method: " + call);
        }
        try {
            Object answer = method.invoke(house, arguments(method, call));
            return answer instanceof Float ? answer + "f" : String.valueOf(answer);
        } catch (InvocationTargetException e) {
            return "throws " + e.getCause().getClass().getSimpleName();
        } catch (IllegalAccessException e) {
            throw new IllegalStateException(e);
        }
    }

    /** Whether an answer is the one that is due: true and false may be told as 1 and 0. */
    static boolean isLike(String answer, String due) {
        String told = due.replace("throws.", "throws ");
        if (answer.equals("true") || answer.equals("false")) {
            return told.equals(answer) || told.equals(answer.equals("true") ? "1" : "0");
        }
        if (told.startsWith("throws") || !answer.contains(".")) {
            return answer.equals(told);
        }
        return answer.endsWith("f") ? Float.parseFloat(answer) == Float.parseFloat(told)
            : Double.parseDouble(answer) == Double.parseDouble(told);
    }

    private static Object[] arguments(Method method, String call) {
        String inside = call.substring(call.indexOf('(') + 1, call.lastIndexOf(')')).trim();
        List<Object> arguments = new ArrayList<>();
        Class<?>[] types = method.getParameterTypes();
        String[] parts = inside.isEmpty() ? new String[0] : inside.split(",");
        if (parts.length != types.length) {
            throw new IllegalStateException("another number of arguments is due: " + call);
        }
        for (int i = 0; i < types.length; i++) {
            arguments.add(argument(types[i], parts[i].trim()));
        }
        return arguments.toArray();
    }

    private static Object argument(Class<?> type, String part) {
        if (type == char.class) {
            return part.startsWith("'") ? part.charAt(1) : (char) Integer.parseInt(part);
        }
        if (type == boolean.class) {
            return part.equals("true");
        }
        return Integer.valueOf(part);
    }
}

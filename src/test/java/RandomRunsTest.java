import java.lang.reflect.InvocationTargetException;
import java.lang.reflect.Method;
import java.lang.reflect.Modifier;
import java.util.ArrayList;
import java.util.Comparator;
import java.util.List;
import java.util.Random;

/** Runs of calls by chance, each made of a house and of its model: they must answer, or throw, alike. */
final class RandomRunsTest {
    private static final int CALLS = 512;
    private static final List<Method> METHODS = methods();
    private static final String[] OFTEN = {"work", "ink", "wipe", "pull", "pull", "over", "bite", "ground", "stop",
        "grain", "enter", "light", "mayBe", "bound", "surely", "isSurely", "dark", "colour", "cell", "checksum"};

    private final Random random;
    private final AquatintHouse house = new AquatintHouse();
    private final ModelHouse model = new ModelHouse();
    private final StringBuilder run = new StringBuilder();
    private final boolean isWild;

    private RandomRunsTest(int number) {
        random = new Random(number);
        isWild = number % 4 == 0;
    }

    public static void main(String[] args) throws ReflectiveOperationException {
        int runs = args.length > 0 ? Integer.parseInt(args[0]) : 1500;
        int wrong = 0;
        for (int i = 0; i < runs && wrong < 3; i++) {
            wrong += new RandomRunsTest(i).isAlike() ? 0 : 1;
        }
        System.out.println("RandomRunsTest: " + runs + " runs, " + wrong + " wrong");
        System.exit(wrong == 0 ? 0 : 1);
    }

    private static List<Method> methods() {
        List<Method> found = new ArrayList<>();
        for (Method method : AquatintHouse.class.getDeclaredMethods()) {
            if (Modifier.isPublic(method.getModifiers())) {
                found.add(method);
            }
        }
        found.sort(Comparator.comparing(Method::getName));
        return found;
    }

    private boolean isAlike() throws ReflectiveOperationException {
        int side = 2 + random.nextInt(4);
        for (int i = 0; i < CALLS; i++) {
            Method method = method(i);
            Object[] arguments = arguments(method, side);
            String due = answer(model, ModelHouse.class.getMethod(method.getName(), method.getParameterTypes()),
                arguments);
            String answer = answer(house, method, arguments);
            run.append(method.getName()).append(java.util.Arrays.toString(arguments)).append(" = ").append(answer)
                .append("; ");
            if (!answer.equals(due) || due.contains("!")) {
                System.out.println(run + " but due is " + due);
                return false;
            }
        }
        return true;
    }

    private Method method(int i) {
        String name = i < 2 ? "plate" : null;
        if (name == null && random.nextInt(3) > 0) {
            name = OFTEN[random.nextInt(OFTEN.length)];
        }
        for (Method method : METHODS) {
            if (method.getName().equals(name)) {
                return method;
            }
        }
        Method chosen = METHODS.get(random.nextInt(METHODS.size()));
        // Closed plates and sheets that are gone make dull runs: such calls are made less often.
        boolean isRare = chosen.getName().equals("close") || chosen.getName().equals("trim")
            || chosen.getName().equals("face");
        return isRare && random.nextInt(5) > 0 ? METHODS.get(random.nextInt(METHODS.size())) : chosen;
    }

    private Object[] arguments(Method method, int side) {
        Class<?>[] types = method.getParameterTypes();
        Object[] arguments = new Object[types.length];
        for (int i = 0; i < types.length; i++) {
            if (types[i] == boolean.class) {
                arguments[i] = method.getName().equals("face") ? random.nextInt(4) == 0 : random.nextBoolean();
            } else if (types[i] == char.class) {
                arguments[i] = letter(method.getName());
            } else {
                arguments[i] = number(method.getName(), i, side);
            }
        }
        return arguments;
    }

    private char letter(String name) {
        String letters = name.equals("plate") ? "zcs" : name.equals("work") ? "nnbbosu" : name.equals("cell") ? "dbtic"
            : name.equals("wipe") ? "rhp" : name.equals("of") ? "pnskroml" : "eat";
        return random.nextInt(60) == 0 ? (char) random.nextInt(256) : letters.charAt(random.nextInt(letters.length()));
    }

    private int number(String name, int i, int side) {
        if (random.nextInt(isWild ? 25 : 120) == 0) {
            int[] wild = {-1, -2147483648, 2147483647, 0, 10, 21, 40, 41, 50, 51, 60, 99, 100, random.nextInt()};
            return wild[random.nextInt(wild.length)];
        }
        switch (name) {
            case "plate":
                return random.nextInt(4) == 0 ? 2 + random.nextInt(7) : side;
            case "seed":
                return random.nextInt(10) == 0 ? 160 : 1 + random.nextInt(2147483646);
            case "work":
                return i == 6 ? 1 + random.nextInt(9) : i == 0 ? random.nextInt(3) : random.nextInt(side);
            case "stop":
            case "cell":
                return i == 0 ? random.nextInt(3) : random.nextInt(side);
            case "grain":
                return i == 0 ? random.nextInt(3) : 1 + random.nextInt(3);
            case "bath":
                return i == 2 ? random.nextInt(41) : i == 1 ? 1 + random.nextInt(9) : random.nextInt(3);
            case "bite":
                return i < 2 ? random.nextInt(3) : 1 + random.nextInt(random.nextBoolean() ? 99 : 20);
            case "press":
                return 1 + random.nextInt(9);
            case "dark":
            case "colour":
                return i == 0 ? sheet() : random.nextInt(side);
            case "light":
                return i == 0 ? sheet() : 1 + random.nextInt(random.nextBoolean() ? 50 : 12);
            case "trim":
                return i == 0 ? sheet() : 1 + random.nextInt(2);
            case "mark":
                return i == 0 ? sheet() : 1 + random.nextInt(99);
            case "edition":
                return i == 0 ? random.nextInt(5) : 1 + random.nextInt(20);
            default:
                return elsewhere(name, i);
        }
    }

    private int elsewhere(String name, int i) {
        boolean isOfPlate = "ground clean ink wipe face pulls state isCancelled isCopy meanDepth checksum".contains(name);
        if (i == 0) {
            boolean isPrinting = name.equals("pull") || name.equals("over");
            boolean isOfEdition = "enter entered close".contains(name);
            return isPrinting || isOfPlate ? random.nextInt(3) : isOfEdition ? random.nextInt(2) : sheet();
        }
        switch (name) {
            case "ink":
                return i == 2 ? 1 + random.nextInt(9) : i == 1 ? random.nextInt(6) : random.nextInt(i == 3 ? 10 : 4);
            case "pull":
                return random.nextInt(3) == 0 ? 0 : random.nextInt(10);
            case "over":
                return i == 1 ? sheet() : random.nextInt(3) == 0 ? 0 : random.nextInt(10);
            case "enter":
                return sheet();
            default:
                return random.nextInt(4);
        }
    }

    private int sheet() {
        return random.nextInt(random.nextInt(3) == 0 ? 40 : 6);
    }

    private static String answer(Object object, Method method, Object[] arguments) throws ReflectiveOperationException {
        try {
            return String.valueOf(method.invoke(object, arguments));
        } catch (InvocationTargetException e) {
            // What the machine throws by itself is told with a mark: it may never be an answer.
            Throwable thrown = e.getCause();
            StackTraceElement[] trace = thrown.getStackTrace();
            boolean isOfLibrary = trace.length > 0 && trace[0].getClassName().startsWith("java.");
            boolean isOfMachine = thrown instanceof Error || isOfLibrary
                || thrown.getClass() != IndexOutOfBoundsException.class && thrown instanceof IndexOutOfBoundsException
                || thrown instanceof NullPointerException || thrown instanceof ClassCastException;
            return "throws " + thrown.getClass().getSimpleName() + (isOfMachine ? "!" : "");
        }
    }
}

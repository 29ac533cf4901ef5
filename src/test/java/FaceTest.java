import java.io.IOException;
import java.lang.reflect.Constructor;
import java.lang.reflect.Field;
import java.lang.reflect.Method;
import java.lang.reflect.Modifier;
import java.nio.file.Files;
import java.nio.file.Paths;
import java.util.ArrayList;
import java.util.Arrays;
import java.util.HashSet;
import java.util.List;
import java.util.Set;
import java.util.TreeSet;
import java.util.regex.Matcher;
import java.util.regex.Pattern;

/** The public face is the document's, word for word, and the class keeps to what can be seen of LANGUAGE.md. */
final class FaceTest {
    private static final String SOURCE = "src/main/java/AquatintHouse.java";
    private static final Pattern DECLARED = Pattern.compile("^ {4}public ([^;]*)\\(([^;]*)\\)( throws [^;]*)?;$");
    private int wrong;

    public static void main(String[] args) throws IOException {
        FaceTest test = new FaceTest();
        test.checkFace();
        test.checkHidden();
        test.checkSource();
        System.out.println("FaceTest: " + test.wrong + " wrong");
        System.exit(test.wrong == 0 ? 0 : 1);
    }

    private void checkFace() throws IOException {
        Set<String> due = new TreeSet<>();
        for (String line : Files.readAllLines(Paths.get("../shared/DOC.md"))) {
            Matcher matcher = DECLARED.matcher(line);
            if (matcher.matches() && !line.contains("AquatintHouse(")) {
                due.add(withoutNames(matcher));
            }
        }
        Set<String> face = new TreeSet<>();
        for (Method method : AquatintHouse.class.getDeclaredMethods()) {
            if (!Modifier.isPrivate(method.getModifiers())) {
                face.add(told(method));
            }
        }
        holds(due.size() == 43, "the document has 43 methods, read were " + due.size());
        holds(due.equals(face), "the document's face is " + due + ", the class's is " + face);
        int modifiers = AquatintHouse.class.getModifiers();
        holds(modifiers == (Modifier.PUBLIC | Modifier.FINAL), "the class is public and final");
        Constructor<?>[] constructors = AquatintHouse.class.getDeclaredConstructors();
        holds(constructors.length == 1 && Modifier.isPublic(constructors[0].getModifiers())
            && constructors[0].getParameterCount() == 0, "there is one public constructor");
    }

    private static String withoutNames(Matcher matcher) {
        List<String> types = new ArrayList<>();
        for (String parameter : matcher.group(2).split(", ")) {
            if (!parameter.isEmpty()) {
                types.add(parameter.split(" ")[0]);
            }
        }
        List<String> exceptions = new ArrayList<>();
        if (matcher.group(3) != null) {
            exceptions.addAll(Arrays.asList(matcher.group(3).substring(" throws ".length()).split(", ")));
        }
        return matcher.group(1) + types + exceptions;
    }

    private static String told(Method method) {
        List<String> types = new ArrayList<>();
        for (Class<?> type : method.getParameterTypes()) {
            types.add(type.getSimpleName());
        }
        List<String> exceptions = new ArrayList<>();
        for (Class<?> type : method.getExceptionTypes()) {
            exceptions.add(type.getSimpleName());
        }
        return method.getReturnType().getSimpleName() + " " + method.getName() + types + exceptions;
    }

    private void checkHidden() {
        Set<String> names = new HashSet<>();
        for (Method method : AquatintHouse.class.getMethods()) {
            names.add(method.getName());
        }
        List<Class<?>> classes = new ArrayList<>(Arrays.asList(AquatintHouse.class.getDeclaredClasses()));
        holds(classes.size() < 12, "the file has at most some twelve classes");
        classes.add(AquatintHouse.class);
        for (Class<?> type : classes) {
            boolean isFace = type == AquatintHouse.class;
            holds(isFace || Modifier.isStatic(type.getModifiers()) && !Modifier.isPublic(type.getModifiers()),
                type + " is static and not public");
            int fields = 0;
            for (Field field : type.getDeclaredFields()) {
                holds(Modifier.isPrivate(field.getModifiers()), field + " is private");
                holds(!Modifier.isStatic(field.getModifiers()) || Modifier.isFinal(field.getModifiers()),
                    field + " is final, being static");
                fields += Modifier.isStatic(field.getModifiers()) ? 0 : 1;
            }
            holds(fields <= 20, type + " has at most some twenty fields");
            for (Method method : type.getDeclaredMethods()) {
                holds(Modifier.isPublic(method.getModifiers()) || !names.contains(method.getName()),
                    method + " does not bear the name of a public one");
                holds(method.getParameterCount() <= 7, method + " takes at most seven parameters");
            }
        }
    }

    private void checkSource() throws IOException {
        String source = new String(Files.readAllBytes(Paths.get(SOURCE)));
        String[] ruledOut = {"->", "::", "try", "catch", "synchronized", "assert", "record", "package ", "System.",
            "@", "instanceof", "Object", "\" +", "+ \"", "NaN", "%=",
            // Of what compare answers only the sign is promised: it is no step along a line.
            "compare("};
        for (String words : ruledOut) {
            holds(!source.contains(words), "the source has no " + words);
        }
        Matcher imports = Pattern.compile("import [^;]*;").matcher(source);
        while (imports.find()) {
            holds(imports.group().equals("import java.util.NoSuchElementException;"), imports.group());
        }
        Matcher thrown = Pattern.compile("throw new (\\w+)\\(\"[^\"]*\"\\);").matcher(source);
        int proper = 0;
        while (thrown.find()) {
            proper++;
        }
        int all = source.split("throw ").length - 1;
        holds(proper == all, "each throw has a new exception with a written text");
        holds(source.chars().allMatch(sign -> sign > 0 && sign < 128), "each sign is 1 to 127");
        checkLengths(source.split("\n"));
    }

    private void checkLengths(String[] lines) {
        int methods = 0;
        for (int i = 0; i < lines.length; i++) {
            Matcher head = Pattern.compile("( {4}| {8})(public|private) [^=;]*\\(.*").matcher(lines[i]);
            if (head.matches()) {
                int end = i;
                while (end < lines.length && !lines[end].equals(head.group(1) + "}")) {
                    end++;
                }
                methods++;
                holds(end < lines.length && end - i < 60, "the method is of some sixty lines:" + lines[i]);
            }
        }
        holds(methods > 100, "the methods were found, and not " + methods + " alone");
    }

    private void holds(boolean is, String what) {
        if (!is) {
            wrong++;
            System.out.println("does not hold: " + what);
        }
    }
}

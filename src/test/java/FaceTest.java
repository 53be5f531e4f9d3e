import java.lang.reflect.Constructor;
import java.lang.reflect.Field;
import java.lang.reflect.Method;
import java.lang.reflect.Modifier;
import java.nio.charset.StandardCharsets;
import java.nio.file.Files;
import java.nio.file.Path;
import java.util.Arrays;
import java.util.List;
import java.util.TreeSet;
import java.util.regex.Matcher;
import java.util.regex.Pattern;

/** The face of the class is the document's and no more, and its source keeps to the plainest rules. */
public final class FaceTest {
    private static final List<String> FACE = Arrays.asList(
            "int create(int)", "int write(int, int)", "int rebase(int, int)", "int abandon(int)",
            "int squash(int)", "int edit(int)", "int mark(int, int)", "int undo()", "int restore(int)",
            "boolean fork(int)", "boolean choose(int)", "int join()", "int operation()",
            "int before(int, int)", "boolean visible(int, int)", "int working(int)",
            "int marked(int, int)", "int head(int, int)", "int commit(int, int)",
            "long count(int, int, int)");
    private static final String[] RULED_OUT = {
        "package ", "->", "::", "throw ", "try ", "static {", "synchronized", "assert ", "public static",
        "protected ", "finally"};

    private static final List<String> LIBRARY = Arrays.asList("Arrays.fill", "System.arraycopy");
    private static final List<String> MADE = Arrays.asList("Commits", "Operations", "Draft", "int", "long");
    private static final int MOST_FIELDS = 20;
    private static final int MOST_PARAMETERS = 7;
    private static final int MOST_CLASSES = 12;

    private static int wrong = 0;

    private static void check(boolean holds, String what) {
        if (!holds) {
            wrong++;
            System.out.println("does not hold: " + what);
        }
    }

    private static String signature(Method method) {
        StringBuilder parameters = new StringBuilder();
        for (Class<?> type : method.getParameterTypes()) {
            parameters.append(parameters.length() == 0 ? "" : ", ").append(type.getName());
        }
        return method.getReturnType().getName() + " " + method.getName() + "(" + parameters + ")";
    }

    private static void checkMembers() {
        TreeSet<String> found = new TreeSet<>();
        TreeSet<String> publicNames = new TreeSet<>();
        for (Method method : ChangeStore.class.getDeclaredMethods()) {
            if (Modifier.isPublic(method.getModifiers())) {
                found.add(signature(method));
                publicNames.add(method.getName());
                check(!Modifier.isStatic(method.getModifiers()), method + " is no static method");
            }
        }
        check(found.equals(new TreeSet<>(FACE)), "the public methods are the document's: " + found);
        for (Method method : ChangeStore.class.getDeclaredMethods()) {
            int modifiers = method.getModifiers();
            check(Modifier.isPublic(modifiers) || Modifier.isPrivate(modifiers), method + " is public or private");
            check(Modifier.isPublic(modifiers) || !publicNames.contains(method.getName()),
                    method + " has a name of its own");
        }
        for (Field field : ChangeStore.class.getDeclaredFields()) {
            check(Modifier.isPrivate(field.getModifiers()), field + " is private");
        }
    }

    private static void checkClass() {
        Constructor<?>[] constructors = ChangeStore.class.getDeclaredConstructors();
        check(constructors.length == 1 && constructors[0].getParameterCount() == 0
                && Modifier.isPublic(constructors[0].getModifiers()), "there is one public constructor without parameters");
        check(Modifier.isFinal(ChangeStore.class.getModifiers()), "the class is final");
        check(Modifier.isPublic(ChangeStore.class.getModifiers()), "the class is public");
        for (Class<?> inside : ChangeStore.class.getDeclaredClasses()) {
            check(Modifier.isStatic(inside.getModifiers()), inside + " is static");
            for (Field field : inside.getDeclaredFields()) {
                check(!Modifier.isStatic(field.getModifiers()), field + " is no static state");
            }
        }
    }

    /** Rules 5 and 11: constants alone are static, and nothing is too large. */
    private static void checkSizes(Class<?> type) {
        int fields = 0;
        for (Field field : type.getDeclaredFields()) {
            boolean isStatic = Modifier.isStatic(field.getModifiers());
            check(!isStatic || (Modifier.isFinal(field.getModifiers()) && field.getType() == int.class),
                    field + " is a constant");
            fields += isStatic ? 0 : 1;
        }
        check(fields <= MOST_FIELDS, type + " has few fields");
        for (Method method : type.getDeclaredMethods()) {
            check(method.getParameterCount() <= MOST_PARAMETERS, method + " has few parameters");
        }
        check(type.getDeclaredClasses().length < MOST_CLASSES, type + " has few classes inside");
    }

    /** Rule 4: of the library, only what the rules list and the program needs. */
    private static void checkLibrary(String source) {
        String code = source.replaceAll("(?s)/\\*.*?\\*/|//[^\n]*", "");
        Matcher call = Pattern.compile("\\b([A-Z]\\w*\\.\\w+)\\(").matcher(code);
        while (call.find()) {
            check(LIBRARY.contains(call.group(1)), "allowed is: " + call.group(1));
        }
        Matcher made = Pattern.compile("\\bnew (\\w+)").matcher(code);
        while (made.find()) {
            check(MADE.contains(made.group(1)), "may be made: " + made.group(1));
        }
    }

    private static void checkSource() throws java.io.IOException {
        Path path = Path.of("src/main/java/ChangeStore.java");
        String source = new String(Files.readAllBytes(path), StandardCharsets.UTF_8);
        for (String ruledOut : RULED_OUT) {
            check(!source.contains(ruledOut), "the source is without '" + ruledOut + "'");
        }
        checkLibrary(source);
        for (String line : source.split("\n")) {
            check(!line.startsWith("import ") || line.equals("import java.util.Arrays;"), "allowed is: " + line);
        }
    }

    public static void main(String[] args) throws java.io.IOException {
        checkMembers();
        checkClass();
        checkSizes(ChangeStore.class);
        for (Class<?> inside : ChangeStore.class.getDeclaredClasses()) {
            checkSizes(inside);
        }
        checkSource();
        System.out.println(wrong == 0 ? "the face is the document's" : wrong + " faults in the face");
        if (wrong != 0) {
            System.exit(1);
        }
    }
}

import java.io.IOException;
import java.lang.reflect.InvocationTargetException;
import java.lang.reflect.Method;
import java.lang.reflect.Modifier;
import java.nio.charset.StandardCharsets;
import java.nio.file.Files;
import java.nio.file.Path;
import java.util.Arrays;
import java.util.regex.Matcher;
import java.util.regex.Pattern;

/** The examples of README.md answer what it tells, and it leaves out no call and no test. */
public final class ReadmeTest {
    private static final String README = "README.md";
    private static final String TESTS = "src/test/java";
    private static final String NEW_OBJECT = "ChangeStore store = new ChangeStore();";
    private static final Pattern CALL =
            Pattern.compile("store\\.(\\w+)\\(([-\\d, ]*)\\); +// (-?\\d+|true|false): .+");

    private static int wrong = 0;
    private static int calls = 0;

    private static void check(boolean holds, String what) {
        if (!holds) {
            wrong++;
            System.out.println(README + ": " + what);
        }
    }

    private static Method methodNamed(String name) {
        for (Method method : ChangeStore.class.getDeclaredMethods()) {
            if (Modifier.isPublic(method.getModifiers()) && method.getName().equals(name)) {
                return method;
            }
        }
        return null;
    }

    private static Object[] numbersIn(String list) {
        if (list.isEmpty()) {
            return new Object[0];
        }
        return Arrays.stream(list.split(", *")).map(Integer::valueOf).toArray();
    }

    private static void checkCall(ChangeStore store, String line)
            throws IllegalAccessException, InvocationTargetException {
        Matcher call = CALL.matcher(line);
        Method method = call.matches() ? methodNamed(call.group(1)) : null;
        if (store == null || method == null) {
            check(false, "no call with its answer: " + line);
            return;
        }
        calls++;
        Object answer = method.invoke(store, numbersIn(call.group(2)));
        check(String.valueOf(answer).equals(call.group(3)), "answered was " + answer + " by " + line);
    }

    private static void checkExamples(String readme) throws IllegalAccessException, InvocationTargetException {
        Matcher block = Pattern.compile("(?s)```java\n(.*?)```").matcher(readme);
        while (block.find()) {
            ChangeStore store = null;
            for (String line : block.group(1).split("\n")) {
                if (line.equals(NEW_OBJECT)) {
                    store = new ChangeStore();
                } else {
                    checkCall(store, line);
                }
            }
        }
        check(calls > 0, "there are no examples");
    }

    private static void checkNoCallLeftOut(String readme) {
        for (Method method : ChangeStore.class.getDeclaredMethods()) {
            if (Modifier.isPublic(method.getModifiers())) {
                check(readme.contains("| `" + method.getName() + "("), method.getName() + " is not in the table");
                check(readme.contains("store." + method.getName() + "("), method.getName() + " is in no example");
            }
        }
    }

    private static void checkNoTestLeftOut(String readme) {
        String[] names = Path.of(TESTS).toFile().list();
        check(names != null && names.length > 0, "there are no tests");
        for (String name : names == null ? new String[0] : names) {
            check(readme.contains(name), name + " is not told of");
        }
    }

    public static void main(String[] args)
            throws IOException, IllegalAccessException, InvocationTargetException {
        String readme = new String(Files.readAllBytes(Path.of(README)), StandardCharsets.UTF_8);
        checkExamples(readme);
        checkNoCallLeftOut(readme);
        checkNoTestLeftOut(readme);
        System.out.println(wrong == 0 ? "README.md: all " + calls + " calls answer what it tells"
                : wrong + " faults in README.md");
        if (wrong != 0) {
            System.exit(1);
        }
    }
}

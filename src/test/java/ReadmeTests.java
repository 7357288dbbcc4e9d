import java.io.IOException;
import java.lang.reflect.InvocationTargetException;
import java.lang.reflect.Method;
import java.lang.reflect.Modifier;
import java.nio.file.Files;
import java.nio.file.Path;
import java.util.HashMap;
import java.util.HashSet;
import java.util.Map;
import java.util.Set;

/**
 * The examples of README.md, which is looked for where the test is run. In its java blocks, what
 * stands behind the sign of a comment up to a blank or colon is the answer of the line's last call.
 */
public final class ReadmeTests {
    private static final Map<String, Method> METHODS = new HashMap<>();
    private static final Set<String> CALLED = new HashSet<>();

    private static Stumpward ground;
    private static int passed = 0;
    private static int failed = 0;

    private static void check(boolean isRight, String what) {
        if (isRight) {
            passed++;
        } else {
            failed++;
            System.out.println(what);
        }
    }

    private static Object argument(Class<?> type, String told) {
        if (type == char.class) {
            return told.charAt(1);
        }
        return type == boolean.class ? (Object) Boolean.valueOf(told) : (Object) Integer.valueOf(told);
    }

    private static String call(String statement) throws IllegalAccessException {
        if (statement.equals("Stumpward ground = new Stumpward()")) {
            ground = new Stumpward();
            return "";
        }
        int open = statement.indexOf('(');
        String name = statement.substring("ground.".length(), open);
        Method method = METHODS.get(name);
        CALLED.add(name);
        String[] told = statement.substring(open + 1, statement.length() - 1).split(", ");
        Class<?>[] types = method.getParameterTypes();
        Object[] arguments = new Object[types.length];
        for (int i = 0; i < types.length; i++) {
            arguments[i] = argument(types[i], told[i]);
        }
        try {
            return String.valueOf(method.invoke(ground, arguments));
        } catch (InvocationTargetException e) {
            return "throws " + e.getCause().getClass().getSimpleName();
        }
    }

    private static void line(String line) throws IllegalAccessException {
        int comment = line.indexOf("// ");
        String calls = comment < 0 ? line : line.substring(0, comment);
        String got = "";
        for (String statement : calls.split(";")) {
            if (!statement.isBlank()) {
                check(!got.startsWith("throws "), line + " threw before its last call");
                got = call(statement.trim());
            }
        }
        if (comment < 0) {
            check(!got.startsWith("throws "), line + " threw");
            return;
        }
        String told = line.substring(comment + 3);
        String[] words = told.split("[: ]");
        String want = words[0].equals("throws") ? "throws " + words[1] : words[0];
        check(got.equals(want), line + " answered " + got);
    }

    public static void main(String[] args) throws IOException, IllegalAccessException {
        for (Method method : Stumpward.class.getDeclaredMethods()) {
            if (Modifier.isPublic(method.getModifiers())) {
                METHODS.put(method.getName(), method);
            }
        }
        boolean isCode = false;
        for (String line : Files.readAllLines(Path.of("README.md"))) {
            if (line.startsWith("```")) {
                isCode = line.equals("```java");
            } else if (isCode) {
                line(line);
            }
        }
        check(CALLED.size() >= 35, "the examples ask " + CALLED.size() + " methods alone");
        System.out.println(passed + " passed, " + failed + " failed");
        if (failed > 0) {
            System.exit(1);
        }
    }
}

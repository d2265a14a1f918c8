import java.io.IOException;
import java.lang.reflect.InvocationTargetException;
import java.lang.reflect.Method;
import java.lang.reflect.Modifier;
import java.nio.file.Files;
import java.nio.file.Path;
import java.util.regex.Matcher;
import java.util.regex.Pattern;

/**
 * README.md, which lies where the test is run, holds: each call in its examples answers what stands
 * behind it, and each public method is in its table.
 */
public final class ReadmeTest {
    private static final Pattern CALL = Pattern.compile("pages\\.(\\w+)\\((.*)\\);\\s*//\\s*(.*)");
    private static final Pattern ANSWER = Pattern.compile("(throws \\w+|-?\\d+|true|false)\\b.*");

    private static int calls = 0;
    private static int wrong = 0;

    private static void tell(String text) {
        wrong++;
        System.out.println("README.md: " + text);
    }

    private static Method named(String name) {
        for (Method method : LazyPages.class.getDeclaredMethods()) {
            if (Modifier.isPublic(method.getModifiers()) && method.getName().equals(name)) {
                return method;
            }
        }
        return null;
    }

    private static Object[] numbers(Method method, String list) {
        String[] texts = list.isEmpty() ? new String[0] : list.split(", ");
        Object[] numbers = new Object[texts.length];
        for (int i = 0; i < texts.length; i++) {
            boolean isInt = i < method.getParameterCount() && method.getParameterTypes()[i] == int.class;
            if (isInt) {
                numbers[i] = Integer.valueOf(texts[i]);
            } else {
                numbers[i] = Long.valueOf(texts[i]);
            }
        }
        return numbers;
    }

    private static String answer(LazyPages pages, Method method, Object[] numbers) throws ReflectiveOperationException {
        try {
            return String.valueOf(method.invoke(pages, numbers));
        } catch (InvocationTargetException e) {
            return "throws " + e.getCause().getClass().getSimpleName();
        }
    }

    /** A call that answers nothing has other words behind it. */
    private static String due(Method method, String words) {
        Matcher told = ANSWER.matcher(words);
        if (told.matches()) {
            return told.group(1);
        }
        return method.getReturnType() == void.class ? "null" : "an answer that stands behind the call";
    }

    private static void runCall(LazyPages pages, String line) throws ReflectiveOperationException {
        Matcher call = CALL.matcher(line);
        Method method = call.matches() ? named(call.group(1)) : null;
        if (method == null) {
            tell("not a call of the class with its answer: " + line);
            return;
        }
        calls++;
        String got = answer(pages, method, numbers(method, call.group(2)));
        String due = due(method, call.group(3));
        if (!got.equals(due)) {
            tell(line + ": the call answered " + got + ", due is " + due);
        }
    }

    private static void runExamples(String[] lines) throws ReflectiveOperationException {
        LazyPages pages = null;
        for (String line : lines) {
            if (line.equals("LazyPages pages = new LazyPages();")) {
                pages = new LazyPages();
            } else if (line.startsWith("pages.")) {
                runCall(pages, line);
            }
        }
        if (calls == 0) {
            tell("it has no example");
        }
    }

    private static void findEachCall(String[] lines) {
        for (Method method : LazyPages.class.getDeclaredMethods()) {
            boolean told = !Modifier.isPublic(method.getModifiers());
            for (String line : lines) {
                told = told || line.startsWith("| `") && line.contains("`" + method.getName() + "(");
            }
            if (!told) {
                tell("its table does not name " + method.getName());
            }
        }
    }

    public static void main(String[] args) throws IOException, ReflectiveOperationException {
        String[] lines = Files.readString(Path.of("README.md")).split("\n");
        runExamples(lines);
        findEachCall(lines);
        System.out.println(wrong == 0 ? calls + " calls of README.md answer as it says" : wrong + " faults in README.md");
        System.exit(wrong == 0 ? 0 : 1);
    }
}

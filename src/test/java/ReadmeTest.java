import java.io.IOException;
import java.lang.reflect.InvocationTargetException;
import java.lang.reflect.Method;
import java.lang.reflect.Modifier;
import java.nio.file.Files;
import java.nio.file.Path;
import java.util.ArrayList;
import java.util.List;
import java.util.TreeSet;
import java.util.regex.Matcher;
import java.util.regex.Pattern;

/**
 * The examples of README.md: each of their calls is made, in the order of the page, and has to
 * answer what stands behind it. The page is read from the folder where the test is started, which
 * is the project's.
 */
public final class ReadmeTest {
    private static final String FIRST_LINE = "TypingTutor tutor = new TypingTutor();";
    /** A call, its arguments, and its answer; what explains the answer stands behind a colon. */
    private static final Pattern CALL =
        Pattern.compile("tutor\\.(\\w+)\\(([^)]*)\\);\\s+// (throws \\w+|[^:\\s]+)(: .*)?");

    private final Check check = new Check("ReadmeTest");
    private final TypingTutor tutor = new TypingTutor();
    private final TreeSet<String> called = new TreeSet<>();

    public static void main(String[] args) throws IOException {
        new ReadmeTest().run();
    }

    private void run() throws IOException {
        check.promise("README.md");
        List<String> lines = examples(Files.readAllLines(Path.of("README.md")));
        check.same("the first line", FIRST_LINE, lines.isEmpty() ? "" : lines.get(0));
        for (int i = 1; i < lines.size(); i++) {
            oneLine(lines.get(i));
        }
        check.same("the methods in the examples", publicMethods(), called);
        check.is("an object's calls are enough", true, lines.size() <= 512);
        check.end();
    }

    /** What stands in the page's blocks of Java, without the empty lines. */
    private static List<String> examples(List<String> page) {
        List<String> lines = new ArrayList<>();
        boolean inExample = false;
        for (String line : page) {
            if (line.startsWith("```")) {
                inExample = line.equals("```java");
            } else if (inExample && !line.isBlank()) {
                lines.add(line);
            }
        }
        return lines;
    }

    private void oneLine(String line) {
        Matcher call = CALL.matcher(line);
        boolean read = call.matches();
        check.is("a call with its answer: " + line, true, read);
        if (read) {
            called.add(call.group(1));
            check.same(line, call.group(3), answerOf(call.group(1), call.group(2)));
        }
    }

    private String answerOf(String name, String arguments) {
        try {
            Method method = methodOf(name);
            return String.valueOf(method.invoke(tutor, numbers(method, arguments)));
        } catch (InvocationTargetException e) {
            return "throws " + e.getCause().getClass().getSimpleName();
        } catch (ReflectiveOperationException | IllegalArgumentException e) {
            return "not a call of the face: " + e;
        }
    }

    private static Method methodOf(String name) throws NoSuchMethodException {
        for (Method method : TypingTutor.class.getMethods()) {
            if (method.getName().equals(name)) {
                return method;
            }
        }
        throw new NoSuchMethodException(name);
    }

    private static Object[] numbers(Method method, String arguments) {
        String[] texts = arguments.isEmpty() ? new String[0] : arguments.split(", ");
        Class<?>[] types = method.getParameterTypes();
        Object[] numbers = new Object[texts.length];
        for (int i = 0; i < texts.length; i++) {
            boolean isLong = i < types.length && types[i] == long.class;
            numbers[i] = isLong ? (Object) Long.decode(texts[i].replaceFirst("L$", ""))
                : (Object) Integer.decode(texts[i]);
        }
        return numbers;
    }

    private static TreeSet<String> publicMethods() {
        TreeSet<String> names = new TreeSet<>();
        for (Method method : TypingTutor.class.getDeclaredMethods()) {
            if (Modifier.isPublic(method.getModifiers())) {
                names.add(method.getName());
            }
        }
        return names;
    }
}

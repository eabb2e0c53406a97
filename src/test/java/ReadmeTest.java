import java.io.IOException;
import java.lang.reflect.InvocationTargetException;
import java.lang.reflect.Method;
import java.lang.reflect.Modifier;
import java.nio.file.Files;
import java.nio.file.Path;
import java.util.HashMap;
import java.util.List;
import java.util.Map;
import java.util.regex.Matcher;
import java.util.regex.Pattern;
import java.util.stream.Stream;

/** README.md's calls are made line by line, on one desk; run from the project's root, as .ci/run does. */
public final class ReadmeTest {
    private static final Path README = Path.of("README.md");
    private static final Path TESTS = Path.of("src/test/java");
    private static final String NEW_DESK = "DarkDesk desk = new DarkDesk();";
    private static final Pattern CALL = Pattern.compile(
            "(?:int (\\w+) = )?desk\\.(\\w+)\\(([^)]*)\\);(?: *// (-?\\d+|true|false|\\w+Exception)(?::.*)?)?");

    private final Check check = new Check();
    private final Map<String, Object> known = new HashMap<>(Map.of(
            "true", true, "false", false, "DarkDesk.NONE", DarkDesk.NONE));
    private final StringBuilder shown = new StringBuilder(" ");
    private DarkDesk desk = null;

    public static void main(String[] args) throws IOException, IllegalAccessException {
        ReadmeTest test = new ReadmeTest();
        List<String> lines = Files.readAllLines(README);
        test.makeCalls(lines);
        test.findMethods();
        test.findTests(String.join("\n", lines));
        test.check.end("ReadmeTest");
    }

    private void makeCalls(List<String> lines) throws IllegalAccessException {
        boolean isJava = false;
        for (String line : lines) {
            if (line.startsWith("```")) {
                isJava = line.equals("```java");
            } else if (isJava && line.equals(NEW_DESK)) {
                desk = new DarkDesk();
            } else if (isJava) {
                makeCall(line);
            }
        }
    }

    private void makeCall(String line) throws IllegalAccessException {
        Matcher call = CALL.matcher(line);
        check.same("README.md: " + line + " can be read", true, call.matches());
        if (!call.matches()) {
            return;
        }
        Method method = methodOf(call.group(2));
        check.same("README.md: " + line + " is of the face", true, method != null);
        if (method == null) {
            return;
        }
        shown.append(method.getName()).append(' ');
        Object got = answerOf(method, call.group(3));
        boolean tells = method.getReturnType() != void.class;
        check.same("README.md: " + line + " tells its answer", tells, call.group(4) != null);
        check.same("README.md: " + line, tells ? call.group(4) : "null", String.valueOf(got));
        if (call.group(1) != null) {
            known.put(call.group(1), got);
        }
    }

    private static Method methodOf(String name) {
        for (Method method : DarkDesk.class.getDeclaredMethods()) {
            if (Modifier.isPublic(method.getModifiers()) && method.getName().equals(name)) {
                return method;
            }
        }
        return null;
    }

    private Object answerOf(Method method, String arguments) throws IllegalAccessException {
        String[] written = arguments.isEmpty() ? new String[0] : arguments.split(", ");
        Object[] given = new Object[written.length];
        for (int i = 0; i < given.length; i++) {
            given[i] = known.containsKey(written[i]) ? known.get(written[i]) : Integer.valueOf(written[i]);
        }
        try {
            return method.invoke(desk, given);
        } catch (InvocationTargetException e) {
            return e.getCause().getClass().getSimpleName();
        }
    }

    private void findMethods() {
        for (Method method : DarkDesk.class.getDeclaredMethods()) {
            if (Modifier.isPublic(method.getModifiers())) {
                check.same("README.md shows " + method.getName(), true, shown.indexOf(" " + method.getName() + " ") >= 0);
            }
        }
    }

    private void findTests(String text) throws IOException {
        try (Stream<Path> files = Files.list(TESTS)) {
            files.map(file -> file.getFileName().toString()).filter(name -> name.endsWith("Test.java")).forEach(
                    name -> check.same("README.md names " + name, true,
                            Pattern.compile("[|,] " + name.replace(".java", "") + "\\b").matcher(text).find()));
        }
        check.same("README.md names .ci/run", true, text.contains(".ci/run"));
    }
}

import java.io.IOException;
import java.lang.reflect.Field;
import java.lang.reflect.Method;
import java.lang.reflect.Modifier;
import java.nio.file.Files;
import java.nio.file.Path;
import java.util.Arrays;
import java.util.List;
import java.util.regex.Pattern;

/** What of LANGUAGE.md can be seen in the source and in its classes; run from the project's root, as .ci/run does. */
public final class LanguageTest {
    private static final Path SOURCE = Path.of("src/main/java/DarkDesk.java");
    private static final String[] RULED_OUT = {
        "->", "::", "\\bcatch\\b", "\\bfinally\\b", "\\bsynchronized\\b", "\\bassert\\b", "\\bvar\\b", "\\bpackage\\b",
        "\\bInteger\\.M", "\\bLong\\.M", "Exact\\b", "\\bHashMap\\b", "\\bMath\\.(random|sqrt|pow)", "\\bSystem\\.(out|err|nano|current)",
        "\\bprotected\\b", "static \\{", "\\bequals\\b", "\\bhashCode\\b", "\\btoString\\b",
    };

    public static void main(String[] args) throws IOException {
        Check check = new Check();
        List<String> lines = Files.readAllLines(SOURCE);
        int begun = 0;
        for (int i = 0; i < lines.size(); i++) {
            String line = lines.get(i);
            String where = "line " + (i + 1) + ": " + line.trim();
            boolean isComment = line.trim().startsWith("*") || line.trim().startsWith("/");
            for (String out : RULED_OUT) {
                check.same(where + " has " + out, false, !isComment && Pattern.compile(out).matcher(line).find());
            }
            check.same(where + " is ASCII", true, line.chars().allMatch(c -> c < 128));
            check.same(where + " imports", false, line.startsWith("import") && !line.matches(
                    "import java\\.util\\.(Arrays|NoSuchElementException);"));
            if (line.matches(" {4}(?: {4})?[a-z].*\\(.*") && !line.endsWith(";")) {
                begun = i;
            }
            if (line.matches(" {4}(?: {4})?\\}")) {
                check.same(where + " ends a method of more than 60 lines", false, i - begun > 60 && !isClassEnd(lines, i));
            }
        }
        Class<?>[] inside = DarkDesk.class.getDeclaredClasses();
        check.same("more than twelve classes", false, inside.length + 1 > 12);
        lookAt(check, DarkDesk.class);
        for (Class<?> one : inside) {
            check.same(one.getName() + " is static", true, Modifier.isStatic(one.getModifiers()));
            lookAt(check, one);
        }
        check.end("LanguageTest");
    }

    private static void lookAt(Check check, Class<?> one) {
        int fields = 0;
        for (Field field : one.getDeclaredFields()) {
            boolean isStatic = Modifier.isStatic(field.getModifiers());
            fields += isStatic ? 0 : 1;
            check.same(field + " is static and not final", false, isStatic && !Modifier.isFinal(field.getModifiers()));
        }
        check.same(one.getName() + " has more than twenty fields", false, fields > 20);
        String[] face = Arrays.stream(DarkDesk.class.getDeclaredMethods())
                .filter(m -> Modifier.isPublic(m.getModifiers())).map(Method::getName).toArray(String[]::new);
        for (Method method : one.getDeclaredMethods()) {
            check.same(method + " has more than seven parameters", false, method.getParameterCount() > 7);
            check.same(method + " bears a public one's name", false,
                    !Modifier.isPublic(method.getModifiers()) && Arrays.asList(face).contains(method.getName()));
        }
    }

    /** A class inside ends behind its last method's end. */
    private static boolean isClassEnd(List<String> lines, int i) {
        return lines.get(i).equals("    }") && lines.get(i - 1).equals("        }");
    }
}

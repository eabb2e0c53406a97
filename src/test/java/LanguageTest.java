import java.io.IOException;
import java.nio.file.Files;
import java.nio.file.Path;
import java.util.List;
import java.util.regex.Pattern;

/** What of LANGUAGE.md can be seen in the source's lines; run from the project's root, as .ci/run does. */
public final class LanguageTest {
    private static final Path SOURCE = Path.of("src/main/java/DarkDesk.java");
    private static final String[] RULED_OUT = {
        "->", "::", "\\bcatch\\b", "\\bfinally\\b", "\\bsynchronized\\b", "\\bassert\\b", "\\bvar\\b", "\\bpackage\\b",
        "\\bInteger\\.M", "\\bLong\\.M", "Exact\\b", "\\bHashMap\\b", "\\bMath\\.(random|sqrt|pow)", "\\bSystem\\.(out|err|nano|current)",
        "\\bprotected\\b", "static \\{", "\\bequals\\b", "\\bhashCode\\b", "\\btoString\\b",
    };

    public static void main(String[] args) throws IOException {
        Check check = new Check();
        List<String> lines = Files.readAllLines(SOURCE);
        int begun = 0;
        for (int i = 0; i < lines.size(); i++) {
            String line = lines.get(i);
            String where = "line " + (i + 1) + ": " + line.trim();
            boolean isComment = line.trim().startsWith("*") || line.trim().startsWith("/");
            for (String out : RULED_OUT) {
                check.same(where + " has " + out, false, !isComment && Pattern.compile(out).matcher(line).find());
            }
            check.same(where + " is ASCII", true, line.chars().allMatch(c -> c < 128));
            check.same(where + " imports", false, line.startsWith("import") && !line.matches(
                    "import java\\.util\\.(Arrays|NoSuchElementException);"));
            if (line.matches(" {4}(?: {4})?[a-z].*\\(.*") && !line.endsWith(";")) {
                begun = i;
            }
            if (line.matches(" {4}(?: {4})?\\}")) {
                check.same(where + " ends a method of more than 60 lines", false, i - begun > 60 && !isClassEnd(lines, i));
            }
        }
        check.end("LanguageTest");
    }

    /** A class inside ends behind its last method's end. */
    private static boolean isClassEnd(List<String> lines, int i) {
        return lines.get(i).equals("    }") && lines.get(i - 1).equals("        }");
    }
}

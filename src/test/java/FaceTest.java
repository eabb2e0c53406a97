import java.lang.reflect.Constructor;
import java.lang.reflect.Executable;
import java.lang.reflect.Field;
import java.lang.reflect.Method;
import java.lang.reflect.Modifier;
import java.util.Arrays;
import java.util.TreeSet;
import java.util.stream.Collectors;

/** The public face is the document's, with its exceptions, and nothing else can be seen from outside. */
public final class FaceTest {
    private static final String OUT = "IndexOutOfBoundsException";
    private static final String BAD = "IllegalArgumentException";
    private static final String FULL = "UnsupportedOperationException";
    private static final String NO_NIGHT = "IllegalStateException";
    private static final String NO_SUCH = "NoSuchElementException";

    public static void main(String[] args) {
        Check check = new Check();
        TreeSet<String> due = new TreeSet<>(Arrays.asList(
                "int work(int, int, int, int)" + by(BAD, FULL), "int need(int, int, boolean)" + by(OUT, BAD, FULL),
                "int hangs(int)" + by(OUT), "int steps(int, int)" + by(OUT), "int rings(int)", "int cut()",
                "int store()" + by(FULL), "int copy(int, int, int)" + by(OUT, BAD, FULL),
                "boolean torn(int, int, boolean)" + by(OUT), "int letter(int, int, int, int)" + by(OUT, BAD, FULL),
                "int change(int, int)" + by(OUT, BAD, FULL), "boolean together()", "int state(int)" + by(OUT),
                "int lost(int)" + by(OUT), "int plan(int, int)" + by(BAD), "int begins(int)" + by(OUT),
                "void night(int)" + by(BAD), "boolean begin(int, boolean)" + by(OUT, NO_NIGHT),
                "int tick(int)" + by(NO_NIGHT, BAD), "boolean fail(int)" + by(OUT, NO_NIGHT),
                "int blow(int)" + by(OUT, NO_NIGHT), "int look(int, int)" + by(OUT, NO_NIGHT, NO_SUCH),
                "int now(int)" + by(NO_NIGHT, NO_SUCH), "int count(int)"));
        TreeSet<String> got = new TreeSet<>();
        TreeSet<String> names = new TreeSet<>();
        for (Method method : DarkDesk.class.getDeclaredMethods()) {
            if (!Modifier.isPrivate(method.getModifiers())) {
                got.add(shape(method));
                names.add(method.getName());
            }
        }
        check.same("methods", due.toString(), got.toString());
        for (Method method : DarkDesk.class.getDeclaredMethods()) {
            check.same("a private method named as a public one: " + method.getName(), false,
                    Modifier.isPrivate(method.getModifiers()) && names.contains(method.getName()));
        }
        constructorAndFields(check);
        check.end("FaceTest");
    }

    private static void constructorAndFields(Check check) {
        check.same("the class is public and final", true,
                Modifier.isPublic(DarkDesk.class.getModifiers()) && Modifier.isFinal(DarkDesk.class.getModifiers()));
        Constructor<?>[] makers = DarkDesk.class.getDeclaredConstructors();
        check.same("constructors", 1, makers.length);
        check.same("its parameters", 0, makers[0].getParameterCount());
        check.same("it is public", true, Modifier.isPublic(makers[0].getModifiers()));
        for (Field field : DarkDesk.class.getDeclaredFields()) {
            boolean isNone = field.getName().equals("NONE");
            check.same("a field that can be seen: " + field.getName(), isNone, !Modifier.isPrivate(field.getModifiers()));
            check.same("a static field that is not final: " + field.getName(), false,
                    Modifier.isStatic(field.getModifiers()) && !Modifier.isFinal(field.getModifiers()));
        }
    }

    private static String by(String... exceptions) {
        return " throws " + String.join(", ", exceptions);
    }

    private static String shape(Executable method) {
        String result = ((Method) method).getReturnType() + " " + method.getName()
                + Arrays.stream(method.getParameterTypes()).map(Class::getSimpleName).collect(Collectors.joining(", ", "(", ")"));
        String thrown = Arrays.stream(method.getExceptionTypes()).map(Class::getSimpleName).collect(Collectors.joining(", "));
        return thrown.isEmpty() ? result : result + " throws " + thrown;
    }
}

import java.lang.reflect.Field;
import java.lang.reflect.Method;
import java.lang.reflect.Modifier;
import java.nio.file.Files;
import java.nio.file.Path;
import java.util.ArrayList;
import java.util.List;
import java.util.Set;
import java.util.TreeSet;
import java.util.regex.Matcher;
import java.util.regex.Pattern;

/** Some rules of ../shared/LANGUAGE.md that can be seen from the words of the source, or from the classes. */
public final class LanguageTest {
    private static final List<String> REFUSED = List.of("->", "::", "\\btry\\b", "\\bfinally\\b", "\\bsynchronized\\b",
        "\\bassert\\b", "\\bpackage\\b", "\\bprotected\\b", "\\bvar\\b", "\\bstatic\\s*\\{", "\\bSystem\\.(?!arraycopy)",
        "\\bObject\\b", "\\bMath\\.(?!min|max|abs)", "\\bArrays\\.(?!fill)", "\\bgetMessage\\b", "\\bRandom\\b",
        "Exact\\(", "while \\(true\\)", "\\bstatic (?!final)[\\w\\[\\]]+ \\w+( =.*)?;");
    private static final Set<String> IMPORTS = Set.of("import java.util.Arrays;", "import java.util.NoSuchElementException;");
    private static final String MADE = " +throw new .*|        final [^(]* = new .*|        \\w+ = new \\w+\\(\\);";

    public static void main(String[] args) throws Exception {
        words();
        classes();
        Check.end();
    }

    private static void words() throws Exception {
        List<String> lines = Files.readAllLines(Path.of("src/main/java/DiagramPress.java"));
        String methodStart = "";
        int since = 0;
        for (String line : lines) {
            for (String refused : REFUSED) {
                if (Pattern.compile(refused).matcher(line).find()) {
                    Check.report("the language has no " + refused + ": " + line);
                }
            }
            if (line.startsWith("import") && !IMPORTS.contains(line)) {
                Check.report("the language has no " + line);
            }
            // All that is made is made with the object, but for exceptions, so that no call takes more room.
            if (line.contains("new ") && !line.matches(MADE)) {
                Check.report("made outside of constructors: " + line);
            }
            Matcher method = Pattern.compile("^ {4,8}[^ /*=;]+ .*\\(.*\\)[^;=]*\\{$").matcher(line);
            if (method.find()) {
                methodStart = line;
                since = 0;
            }
            if (++since == 61 && !methodStart.isEmpty()) {
                Check.report("more than sixty lines: " + methodStart);
            }
        }
    }

    private static void classes() {
        List<Class<?>> classes = new ArrayList<>(List.of(DiagramPress.class.getDeclaredClasses()));
        Check.about("the classes inside it, which are private or package-visible and static");
        for (Class<?> inside : classes) {
            Check.same(inside + "'s modifiers", inside.getModifiers(), Modifier.PRIVATE | Modifier.STATIC | Modifier.FINAL);
            Check.same("classes inside " + inside, inside.getDeclaredClasses().length, 0);
        }
        classes.add(DiagramPress.class);
        Check.about("the file has at most some twelve classes, and a class some twenty fields beside its constants");
        atMost("classes", classes.size(), 12);
        TreeSet<String> face = new TreeSet<>();
        for (Method method : DiagramPress.class.getDeclaredMethods()) {
            if (Modifier.isPublic(method.getModifiers())) {
                face.add(method.getName());
            }
        }
        for (Class<?> one : classes) {
            fields(one);
            for (Method method : one.getDeclaredMethods()) {
                Check.about("No private method bears the name of a public one");
                Check.same(one + " hides " + method.getName(),
                    face.contains(method.getName()) && !Modifier.isPublic(method.getModifiers()) ? 1 : 0, 0);
                Check.about("A method takes at most seven parameters");
                atMost("parameters of " + method, method.getParameterCount(), 7);
            }
        }
    }

    private static void fields(Class<?> one) {
        int own = 0;
        for (Field field : one.getDeclaredFields()) {
            if (Modifier.isStatic(field.getModifiers())) {
                Check.about("Static fields are final: constants of int, long, boolean, char or String");
                Check.same(field + " is final", Modifier.isFinal(field.getModifiers()) ? 1 : 0, 1);
                Check.same(field + " is an int", field.getType() == int.class ? 1 : 0, 1);
            } else {
                own++;
            }
        }
        Check.about("the file has at most some twelve classes, and a class some twenty fields beside its constants");
        atMost("fields of " + one, own, 20);
    }

    private static void atMost(String what, int got, int due) {
        if (got > due) {
            Check.report(got + " " + what + ", at most due are " + due);
        }
    }
}

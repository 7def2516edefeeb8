import java.lang.reflect.InvocationTargetException;
import java.lang.reflect.Method;
import java.lang.reflect.Modifier;
import java.nio.file.Files;
import java.nio.file.Path;
import java.util.ArrayList;
import java.util.List;
import java.util.Set;
import java.util.TreeSet;
import java.util.regex.Matcher;
import java.util.regex.Pattern;

/** The calls that README.md shows answer as it says there, line by line, and its picture is what they draw. */
public final class ReadmeTest {
    private static final String MAKING = "DiagramPress press = new DiagramPress();";
    // The call's name, its arguments, its answer, and maybe words about it.
    private static final Pattern CALL = Pattern.compile("press\\.(\\w+)\\((.*?)\\);\\s+// ((?:throws )?[^ :]+)(?:: (.+))?");
    private static final Set<String> SHOWN = new TreeSet<>();

    private static DiagramPress press;
    private static int pictures;

    public static void main(String[] args) throws Exception {
        String language = "";
        List<String> block = new ArrayList<>();
        for (String line : Files.readAllLines(Path.of("README.md"))) {
            if (!line.startsWith("```")) {
                block.add(line);
            } else if (line.length() > 3) {
                language = line.substring(3);
                block.clear();
            } else {
                look(language, block);
            }
        }
        Set<String> all = new TreeSet<>();
        for (Method method : DiagramPress.class.getDeclaredMethods()) {
            if (Modifier.isPublic(method.getModifiers())) {
                all.add(method.getName());
            }
        }
        if (!SHOWN.equals(all)) {
            Check.report("README.md shows " + SHOWN + ", not all of " + all);
        }
        Check.same("pictures in README.md", pictures, 1);
        Check.end();
    }

    private static void look(String language, List<String> block) throws Exception {
        if (language.equals("java")) {
            for (String line : block) {
                follow(line);
            }
        } else if (language.equals("text")) {
            comparePicture(block);
        } else {
            for (String command : block) {
                Check.same(command + " can be run", Files.isExecutable(Path.of(command)) ? 1 : 0, 1);
            }
        }
    }

    private static void follow(String line) throws Exception {
        Matcher call = CALL.matcher(line);
        if (line.equals(MAKING)) {
            press = new DiagramPress();
        } else if (call.matches()) {
            String got = answer(call.group(1), call.group(2));
            if (!got.equals(call.group(3))) {
                Check.report(line + " answered " + got);
            }
            if (call.group(1).equals("type") && !got.startsWith("throws")) {
                Check.same("the number in " + line, number(call.group(2)), Check.pack(call.group(4)));
            }
        } else {
            Check.report("README.md shows what this test can't follow: " + line);
        }
    }

    private static String answer(String name, String arguments) throws Exception {
        String[] words = arguments.isEmpty() ? new String[0] : arguments.split(", ");
        for (Method method : DiagramPress.class.getMethods()) {
            if (method.getName().equals(name)) {
                SHOWN.add(name);
                Object[] values = new Object[words.length];
                for (int i = 0; i < words.length; i++) {
                    values[i] = value(words[i], method.getParameterTypes()[i]);
                }
                try {
                    return String.valueOf(method.invoke(press, values));
                } catch (InvocationTargetException e) {
                    return "throws " + e.getCause().getClass().getSimpleName();
                }
            }
        }
        return "nothing, there is no " + name;
    }

    private static Object value(String word, Class<?> type) {
        if (type == boolean.class) {
            return Boolean.valueOf(word);
        }
        return type == int.class ? (Object) Integer.valueOf(word) : (Object) number(word);
    }

    private static long number(String word) {
        return Long.decode(word.replace("L", ""));
    }

    private static void comparePicture(List<String> rows) {
        pictures++;
        for (int row = 0; row < rows.size(); row++) {
            StringBuilder got = new StringBuilder();
            for (int column = 0; column < rows.get(row).length(); column++) {
                int cell = press.pixel(column, row);
                got.append(cell < 4 ? ".*#:".charAt(cell) : (char) cell);
            }
            if (!got.toString().equals(rows.get(row))) {
                Check.report("row " + row + " is " + got + ", README.md shows " + rows.get(row));
            }
        }
    }
}

import java.nio.file.Files;
import java.nio.file.Path;
import java.util.List;
import java.util.Set;
import java.util.regex.Matcher;
import java.util.regex.Pattern;

/** Some rules of ../shared/LANGUAGE.md that can be seen from the words of the source. */
public final class LanguageTest {
    private static final List<String> REFUSED = List.of("->", "::", "\\btry\\b", "\\bfinally\\b", "\\bsynchronized\\b",
        "\\bassert\\b", "\\bpackage\\b", "\\bprotected\\b", "\\bvar\\b", "\\bstatic\\s*\\{", "\\bSystem\\.(?!arraycopy)",
        "\\bObject\\b", "\\bMath\\.(?!min|max|abs)", "\\bArrays\\.(?!fill)", "\\bgetMessage\\b", "\\bRandom\\b",
        "Exact\\(", "while \\(true\\)", "\\bstatic (?!final)[\\w\\[\\]]+ \\w+( =.*)?;");
    private static final Set<String> IMPORTS = Set.of("import java.util.Arrays;", "import java.util.NoSuchElementException;");
    private static final String MADE = " +throw new .*|        final [^(]* = new .*|        \\w+ = new \\w+\\(\\);";

    public static void main(String[] args) throws Exception {
        List<String> lines = Files.readAllLines(Path.of("src/main/java/DiagramPress.java"));
        String methodStart = "";
        int since = 0;
        for (String line : lines) {
            for (String refused : REFUSED) {
                if (Pattern.compile(refused).matcher(line).find()) {
                    Check.report("the language has no " + refused + ": " + line);
                }
            }
            if (line.startsWith("import") && !IMPORTS.contains(line)) {
                Check.report("the language has no " + line);
            }
            // All that is made is made with the object, but for exceptions, so that no call takes more room.
            if (line.contains("new ") && !line.matches(MADE)) {
                Check.report("made outside of constructors: " + line);
            }
            Matcher method = Pattern.compile("^ {4,8}[^ /*=;]+ .*\\((.*)\\)[^;=]*\\{$").matcher(line);
            if (method.find()) {
                methodStart = line;
                since = 0;
                if (method.group(1).split(",").length > 7) {
                    Check.report("more than seven parameters: " + line);
                }
            }
            if (++since == 61 && !methodStart.isEmpty()) {
                Check.report("more than sixty lines: " + methodStart);
            }
        }
        Check.end();
    }
}

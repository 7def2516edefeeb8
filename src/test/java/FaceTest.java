import java.lang.reflect.Constructor;
import java.lang.reflect.Field;
import java.lang.reflect.Method;
import java.lang.reflect.Modifier;
import java.util.ArrayList;
import java.util.Arrays;
import java.util.List;
import java.util.TreeSet;

/** The public face is the document's, and nothing else can be seen from outside. */
public final class FaceTest {
    private static final String A = "IllegalArgumentException";
    private static final String S = "IllegalStateException";
    private static final String N = "NoSuchElementException";

    public static void main(String[] args) {
        Class<?> face = DiagramPress.class;
        Check.same("the class's modifiers", face.getModifiers(), Modifier.PUBLIC | Modifier.FINAL);
        TreeSet<String> due = new TreeSet<>(List.of(
            "int type(long) " + S + " " + A,
            "int clear()",
            "int fault()",
            "int compile() " + S + " UnsupportedOperationException",
            "int rank(int) " + A + " " + N,
            "int position(int) " + A + " " + N,
            "double x(int) " + A + " " + N,
            "int edge(int, int, boolean) " + A + " " + N,
            "double bend(int, int, int) " + A + " " + N,
            "int bendPosition(int, int, int) " + A + " " + N,
            "int pixel(int, int) " + A + " " + N,
            "int count(int) " + A + " " + N));
        TreeSet<String> got = new TreeSet<>();
        for (Method method : face.getDeclaredMethods()) {
            if (!Modifier.isPrivate(method.getModifiers())) {
                got.add(told(method));
            }
        }
        if (!got.equals(due)) {
            Check.report("the methods are " + got + ", due are " + due);
        }
        Check.same("constructors", face.getDeclaredConstructors().length, 1);
        for (Constructor<?> constructor : face.getDeclaredConstructors()) {
            Check.same("the constructor's modifiers", constructor.getModifiers(), Modifier.PUBLIC);
            Check.same("the constructor's parameters", constructor.getParameterCount(), 0);
        }
        for (Field field : face.getDeclaredFields()) {
            Check.same(field.getName() + " is private", Modifier.isPrivate(field.getModifiers()) ? 1 : 0, 1);
        }
        Check.end();
    }

    private static String told(Method method) {
        List<String> parameters = new ArrayList<>();
        for (Class<?> type : method.getParameterTypes()) {
            parameters.add(type.getSimpleName());
        }
        StringBuilder line = new StringBuilder();
        line.append(Modifier.isPublic(method.getModifiers()) ? "" : "not public ");
        line.append(Modifier.isStatic(method.getModifiers()) ? "static " : "");
        line.append(method.getReturnType().getSimpleName()).append(' ').append(method.getName());
        line.append('(').append(String.join(", ", parameters)).append(')');
        Arrays.stream(method.getExceptionTypes()).forEach(type -> line.append(' ').append(type.getSimpleName()));
        return line.toString();
    }
}

import java.lang.reflect.Array;
import java.lang.reflect.Field;
import java.lang.reflect.Modifier;
import java.util.ArrayList;
import java.util.Collections;
import java.util.IdentityHashMap;
import java.util.List;
import java.util.Set;
import java.util.function.Function;

/** An object over the 512 calls for which it is used, and the room that 512 objects take. */
public final class LifeTest {
    private static final int CALLS = 512;
    private static final String SIXTY = "a>b>c>d>e>f>g>h>i>j>k>l;a>l;a>k;a>j;a>i;b>l;b>g;d>f;";
    private static final List<String> TEXTS = List.of(SIXTY, "", "a>b>c>a;!b9;", SIXTY + "e>g;", "a>b", "=ab;c>b;l;");

    public static void main(String[] args) throws Exception {
        theSameCallAlways();
        manyTexts();
        usedLikeNew();
        room();
        Check.end();
    }

    private static void theSameCallAlways() {
        Check.about("at most 512 calls after it has been made");
        DiagramPress compiling = Check.typed(SIXTY);
        int used = (SIXTY.length() + 7) / 8;
        for (int call = used + 1; call <= CALLS; call++) {
            Check.same("compile() in call " + call, compiling.compile(), 60);
        }
        DiagramPress refusing = new DiagramPress();
        DiagramPress typing = new DiagramPress();
        for (int call = 1; call <= CALLS; call++) {
            Check.thrown("rank(0) in call " + call, Check.MISSING, () -> refusing.rank(0));
            if (call <= 90) {
                Check.same("type in call " + call, typing.type('a'), call);
            } else {
                Check.thrown("type in call " + call, Check.STATE, () -> typing.type('a'));
            }
        }
    }

    private static void manyTexts() {
        Check.about("at most 512 calls after it has been made");
        DiagramPress press = new DiagramPress();
        int calls = 0;
        for (int round = 0; calls < CALLS; round++) {
            String text = TEXTS.get(round % TEXTS.size());
            DiagramPress fresh = new DiagramPress();
            for (Function<DiagramPress, Object> call : callsFor(text, round)) {
                if (calls == CALLS) {
                    return;
                }
                calls++;
                String got = Answers.of(() -> call.apply(press));
                String due = Answers.of(() -> call.apply(fresh));
                if (!got.equals(due)) {
                    Check.report("call " + calls + " with " + text + " answered " + got + ", due is " + due);
                }
            }
            // The next round finds the text empty, as its new object does.
            calls++;
            Check.same("clear() in call " + calls, press.clear(), text.length());
        }
    }

    private static void usedLikeNew() {
        Check.about("else it is COMPILED, and that is the DRAWING");
        // What a compile leaves behind, of whatever kind, is not seen by the next one.
        List<String> befores = List.of(SIXTY, "=ba;", "=lkjihgfedcba;", "=ba;a>b;", "b>a9;!a9;", "l>a>l;", "a>f;b>e;c>d;");
        for (String before : befores) {
            for (String text : List.of("a>b;", "b>a;", "a>b;a>c;", "a>d;b>c;l;", "=ab;", "a>f;b>e;c;=def;")) {
                DiagramPress press = Check.typed(before);
                Answers.of(press::compile);
                press.clear();
                Check.typeAll(press, text);
                press.compile();
                Answers.same(text + " after " + before, Answers.all(press), Answers.all(Check.compiled(text)));
            }
        }
    }

    private static List<Function<DiagramPress, Object>> callsFor(String text, int round) {
        List<Function<DiagramPress, Object>> calls = new ArrayList<>();
        for (int i = 0; i < text.length(); i += 8) {
            long signs = Check.pack(text.substring(i, Math.min(i + 8, text.length())));
            calls.add(press -> press.type(signs));
        }
        calls.add(DiagramPress::fault);
        calls.add(DiagramPress::compile);
        for (int i = 0; i < 3; i++) {
            int node = (4 * i + round) % 12;
            calls.add(press -> press.rank(node));
            calls.add(press -> press.position(node));
            calls.add(press -> press.x(node));
            calls.add(press -> press.edge(0, node, false));
            calls.add(press -> press.edge(node, 0, true));
            calls.add(press -> press.bend(0, node, 0));
            calls.add(press -> press.bendPosition(0, node, 0));
            calls.add(press -> press.pixel(3 + node, 7));
            calls.add(press -> press.count(node));
        }
        return calls;
    }

    private static void room() throws Exception {
        Check.about("600,000 objects and arrays, 7.3 million fields and elements in all");
        Set<Object> seen = Collections.newSetFromMap(new IdentityHashMap<>());
        int elements = elementsOf(Check.compiled(SIXTY), seen);
        if (seen.size() * CALLS > 600_000 || elements * CALLS > 7_300_000) {
            Check.report("one object is " + seen.size() + " objects with " + elements + " fields and elements");
        }
    }

    /** Fields and elements of an object and of all that it holds. */
    private static int elementsOf(Object object, Set<Object> seen) throws Exception {
        if (object == null || !seen.add(object)) {
            return 0;
        }
        if (object.getClass().isArray()) {
            return Array.getLength(object);
        }
        int elements = 0;
        for (Field field : object.getClass().getDeclaredFields()) {
            if (!Modifier.isStatic(field.getModifiers())) {
                elements++;
                if (!field.getType().isPrimitive()) {
                    field.setAccessible(true);
                    elements += elementsOf(field.get(object), seen);
                }
            }
        }
        return elements;
    }
}

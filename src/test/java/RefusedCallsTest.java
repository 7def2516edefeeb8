import java.util.List;
import java.util.regex.Matcher;
import java.util.regex.Pattern;

/** What is thrown, in which order, and that a refused call changes nothing, sentence by sentence. */
public final class RefusedCallsTest {
    private static final String CHAIN = "a>b>c>d>e>f>g>h>i>j>k>l;";
    private static final String SIXTY = CHAIN + "a>l;a>k;a>j;a>i;b>l;b>g;d>f;";
    private static final String FULL = "a>b>c3;a>c;=de;!e5;e>f>c;" + "g;".repeat(32) + "!";
    // Each is refused by another rule.
    private static final List<String> REFUSED = List.of("a", "%", "a>b;=ab", "a>b;=ab;", SIXTY + "e>g;");
    private static final List<String> DRAWN = List.of("", "a;", "l>a;", "a>b>c>a;!b9;", SIXTY);

    public static void main(String[] args) {
        withoutDrawing();
        withDrawing();
        theDrawingGoesFirst();
        theDrawingStaysOtherwise();
        refusedCallsChangeNothing();
        wrongSignBeforeTooLong();
        countEnds();
        Check.end();
    }

    private static void withoutDrawing() {
        Check.about("IllegalArgumentException: a number out of range; NoSuchElementException: there is no DRAWING");
        none("a new object", new DiagramPress());
        none("a text that was not compiled", Check.typed("a>b;"));
        for (String text : REFUSED) {
            DiagramPress press = Check.typed(text);
            refuse(press, text);
            none(text, press);
        }
    }

    private static void refuse(DiagramPress press, String text) {
        boolean whole = press.fault() == -2;
        Check.thrown("compile() of " + text, whole ? Check.STATE : Check.UNSUPPORTED, press::compile);
    }

    private static void none(String what, DiagramPress press) {
        for (String line : Answers.all(press)) {
            if (!line.startsWith("fault")) {
                String due = inRange(line) ? "NoSuchElementException" : "IllegalArgumentException";
                if (!line.endsWith(" " + due)) {
                    Check.report(what + ": " + line + ", due is " + due);
                }
            }
        }
    }

    private static void withDrawing() {
        Check.about("IllegalArgumentException: a number out of range");
        for (String text : DRAWN) {
            for (String line : Answers.all(Check.compiled(text))) {
                if (!line.startsWith("fault") && inRange(line) == line.endsWith(" IllegalArgumentException")) {
                    Check.report(text + ": " + line);
                }
            }
        }
    }

    private static boolean inRange(String line) {
        Matcher numbers = Pattern.compile("-?\\d+").matcher(line.substring(0, line.indexOf(')')));
        int[] found = new int[3];
        int count = 0;
        while (numbers.find()) {
            found[count++] = Integer.parseInt(numbers.group());
        }
        switch (line.substring(0, line.indexOf('('))) {
            case "pixel":
                return from0To(149, found[0]) && from0To(71, found[1]);
            case "count":
                return from0To(18, found[0]);
            case "rank", "position", "x":
                return from0To(11, found[0]);
            default:
                return from0To(11, found[0]) && from0To(11, found[1]) && found[2] >= 0;
        }
    }

    private static boolean from0To(int last, int number) {
        return number >= 0 && number <= last;
    }

    private static void theDrawingGoesFirst() {
        Check.about("There is no DRAWING any more; then: the text is not whole: .. CONFLICT: ..");
        for (String before : DRAWN) {
            for (String text : REFUSED) {
                DiagramPress press = Check.compiled(before);
                press.clear();
                Check.typeAll(press, text);
                refuse(press, text);
                none(text + " after " + before, press);
                refuse(press, text);
                Check.same("the length after " + text, press.clear(), text.length());
                Check.typeAll(press, before);
                press.compile();
                Answers.same(before + " after " + text, Answers.all(press), Answers.all(Check.compiled(before)));
            }
        }
    }

    private static void theDrawingStaysOtherwise() {
        Check.about("else it is COMPILED, and that is the DRAWING");
        DiagramPress press = Check.compiled("a>b>c>a;!b9;");
        List<String> due = Answers.all(press);
        press.type(Check.pack("d;"));
        Answers.same("after type", Answers.all(press), due);
        press.clear();
        Answers.same("after clear()", Answers.all(press), due);
        press.type(Check.pack("%"));
        Check.same("fault()", press.fault(), 0);
        Check.same("rank(2) of a text that is gone", press.rank(2), 2);
        Check.thrown("rank(3), typed but not compiled", Check.MISSING, () -> press.rank(3));
    }

    private static void refusedCallsChangeNothing() {
        Check.about("A call that throws changes nothing, but as said");
        for (String text : List.of("", "a>", "a>b>c>a;!b9;", FULL.substring(0, 89), FULL, SIXTY)) {
            DiagramPress press = Check.typed(text);
            DiagramPress twin = Check.typed(text);
            throwAll(press);
            unchanged(text, press, twin);
        }
        for (String text : DRAWN) {
            DiagramPress press = Check.compiled(text);
            DiagramPress twin = Check.compiled(text);
            throwAll(press);
            Answers.same(text, Answers.all(press), Answers.all(twin));
            unchanged(text, press, twin);
        }
        // The text stays when compile() throws, so that what was missing can be typed.
        DiagramPress press = Check.typed("a>b;=ab");
        refuse(press, "a>b;=ab");
        press.type(Check.pack("c"));
        refuse(press, "a>b;=abc");
        press.clear();
        Check.typeAll(press, "a>b;=bc");
        refuse(press, "a>b;=bc");
        press.type(Check.pack(";"));
        Check.same("compile() of a>b;=bc;", press.compile(), 3);
    }

    /** Calls that throw in every state, but compile(). */
    private static void throwAll(DiagramPress press) {
        Check.thrown("type(32)", Check.ARGUMENT, () -> press.type(32L));
        Check.thrown("type of a; and 127", Check.ARGUMENT, () -> press.type(Check.pack("a;\177")));
        Check.thrown("type(-1)", Check.ARGUMENT, () -> press.type(-1L));
        Check.thrown("rank(12)", Check.ARGUMENT, () -> press.rank(12));
        Check.thrown("position(-1)", Check.ARGUMENT, () -> press.position(-1));
        Check.thrownByDouble("x(12)", Check.ARGUMENT, () -> press.x(12));
        Check.thrown("edge(0, 12, true)", Check.ARGUMENT, () -> press.edge(0, 12, true));
        Check.thrownByDouble("bend(0, 0, -1)", Check.ARGUMENT, () -> press.bend(0, 0, -1));
        Check.thrownByDouble("bend(0, 0, 0)", Check.MISSING, () -> press.bend(0, 0, 0));
        Check.thrown("bendPosition(0, 0, 99)", Check.MISSING, () -> press.bendPosition(0, 0, 99));
        Check.thrown("pixel(150, 0)", Check.ARGUMENT, () -> press.pixel(150, 0));
        Check.thrown("count(19)", Check.ARGUMENT, () -> press.count(19));
    }

    private static void unchanged(String text, DiagramPress press, DiagramPress twin) {
        String compiled = Answers.of(press::compile);
        if (!compiled.equals(Answers.of(twin::compile))) {
            Check.report("compile() of " + text + " answered " + compiled);
        }
        Answers.same(text, Answers.all(press), Answers.all(twin));
        int length = text.length();
        if (length > 82) {
            Check.thrown("type of eight at " + length, Check.STATE, () -> press.type(Check.pack("a;b;c;d;")));
        }
        Check.same("clear() of " + text, press.clear(), length);
        Check.same("fault() of nothing", press.fault(), -2);
    }

    private static void wrongSignBeforeTooLong() {
        Check.about("One is none of 33 .. 126: IllegalArgumentException. Too long: IllegalStateException.");
        for (int length : new int[] {83, 89, 90}) {
            DiagramPress press = Check.typed(FULL.substring(0, length));
            Check.thrown("type of eight signs", Check.STATE, () -> press.type(Check.pack("aaaaaaaa")));
            Check.thrown("type with a wrong first", Check.ARGUMENT, () -> press.type(Check.pack(" aaaaaaa")));
            Check.thrown("type with a wrong last", Check.ARGUMENT, () -> press.type(Check.pack("aaaaaaa ")));
            Check.same("the length", press.clear(), length);
        }
    }

    private static void countEnds() {
        Check.about("7 + r: places on RANK r 0 .. 11. Else IllegalArgumentException");
        DiagramPress press = Check.compiled(SIXTY);
        int sum = 0;
        for (int rank = 0; rank <= 11; rank++) {
            sum += press.count(7 + rank);
        }
        Check.same("all places", sum, 60);
        Check.same("count(0)", press.count(0), 60);
        Check.same("count(7)", press.count(7), 1);
        Check.same("count(18)", press.count(18), 1);
        Check.same("count(18) without such a rank", Check.compiled("a;").count(18), 0);
        Check.same("count(8) without such a rank", Check.compiled("a;").count(8), 0);
        for (int bad : new int[] {-1, 19, Integer.MIN_VALUE, Integer.MAX_VALUE}) {
            Check.thrown("count(" + bad + ")", Check.ARGUMENT, () -> press.count(bad));
        }
    }
}

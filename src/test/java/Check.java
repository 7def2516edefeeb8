import java.util.function.DoubleSupplier;
import java.util.function.LongSupplier;

/** What the tests share: typing a text, and comparing answers with those that are due. */
final class Check {
    static final Class<IllegalArgumentException> ARGUMENT = IllegalArgumentException.class;
    static final Class<IllegalStateException> STATE = IllegalStateException.class;
    static final Class<UnsupportedOperationException> UNSUPPORTED = UnsupportedOperationException.class;
    static final Class<java.util.NoSuchElementException> MISSING = java.util.NoSuchElementException.class;

    private static int wrong = 0;
    private static String sentence = "";

    private Check() { }

    /** The document's words that the checks from here on are about; they are printed with what fails. */
    static void about(String words) {
        sentence = " (\"" + words + "\")";
    }

    static long pack(String signs) {
        long packed = 0;
        for (char sign : signs.toCharArray()) {
            packed = packed << 8 | sign;
        }
        return packed;
    }

    static void typeAll(DiagramPress press, String text) {
        for (int i = 0; i < text.length(); i += 8) {
            press.type(pack(text.substring(i, Math.min(i + 8, text.length()))));
        }
    }

    static DiagramPress typed(String text) {
        DiagramPress press = new DiagramPress();
        typeAll(press, text);
        return press;
    }

    static DiagramPress compiled(String text) {
        DiagramPress press = typed(text);
        press.compile();
        return press;
    }

    static void same(String what, long got, long due) {
        if (got != due) {
            report(what + " answered " + got + ", due is " + due);
        }
    }

    static void same(String what, double got, double due) {
        if (Double.compare(got, due) != 0) {
            report(what + " answered " + got + ", due is " + due);
        }
    }

    static void thrown(String what, Class<? extends RuntimeException> due, LongSupplier call) {
        try {
            report(what + " answered " + call.getAsLong() + ", due is " + due.getSimpleName());
        } catch (RuntimeException e) {
            if (e.getClass() != due) {
                report(what + " threw " + e + ", due is " + due.getSimpleName());
            }
        }
    }

    static void thrownByDouble(String what, Class<? extends RuntimeException> due, DoubleSupplier call) {
        thrown(what, due, () -> (long) call.getAsDouble());
    }

    static void report(String line) {
        wrong++;
        if (wrong <= 50) {
            System.out.println(line + sentence);
        }
    }

    static void end() {
        if (wrong != 0) {
            System.out.println(wrong + " answers are not as due");
            System.exit(1);
        }
    }
}

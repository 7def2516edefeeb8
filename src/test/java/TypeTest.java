/** Promise 2. */
public final class TypeTest {
    public static void main(String[] args) {
        bytesGoFromTheHighestOn();
        wrongSigns();
        atMostNinety();
        Check.end();
    }

    private static void bytesGoFromTheHighestOn() {
        DiagramPress press = new DiagramPress();
        Check.same("type of a>b>c;a>", press.type(Check.pack("a>b>c;a>")), 8);
        Check.same("type of d;", press.type(Check.pack("d;")), 10);
        Check.same("compile()", press.compile(), 4);
        Check.same("edge(0, 3, false)", press.edge(0, 3, false), 1);
        Check.same("edge(1, 2, false)", press.edge(1, 2, false), 1);
        DiagramPress gaps = new DiagramPress();
        Check.same("type of zeros between", gaps.type(0x0061003e00620000L), 3);
        Check.same("type of a sign at the top", gaps.type(0x3b00000000000000L), 4);
        Check.same("type(0)", gaps.type(0L), 4);
        Check.same("compile() of a>b;", gaps.compile(), 2);
        Check.same("edge(0, 1, false)", gaps.edge(0, 1, false), 1);
    }

    private static void wrongSigns() {
        for (int code = 1; code <= 255; code++) {
            for (int shift = 0; shift < 64; shift += 8) {
                DiagramPress press = new DiagramPress();
                // The other bytes are good signs, so that only this one can be wrong.
                long signs = Check.pack("aaaaaaaa") & ~(255L << shift) | (long) code << shift;
                if (code >= 33 && code <= 126) {
                    Check.same("type with " + code, press.type(signs), 8);
                } else {
                    Check.thrown("type with " + code, Check.ARGUMENT, () -> press.type(signs));
                    Check.same("length after " + code, press.clear(), 0);
                }
            }
        }
        DiagramPress press = Check.typed("a>");
        Check.thrown("type(-1)", Check.ARGUMENT, () -> press.type(-1L));
        Check.thrown("type of b and a blank", Check.ARGUMENT, () -> press.type(Check.pack("b ")));
        Check.same("type of b;", press.type(Check.pack("b;")), 4);
        Check.same("fault()", press.fault(), -2);
    }

    private static void atMostNinety() {
        DiagramPress press = new DiagramPress();
        for (int i = 1; i <= 11; i++) {
            Check.same("type number " + i, press.type(Check.pack("a>b;b>c;")), 8 * i);
        }
        Check.thrown("type of 3 at 88", Check.STATE, () -> press.type(Check.pack("a;a")));
        Check.thrown("type of 8 at 88", Check.STATE, () -> press.type(Check.pack("a>b;b>c;")));
        Check.same("fault() at 88", press.fault(), -2);
        Check.same("type of 2 at 88", press.type(Check.pack("d;")), 90);
        Check.same("type(0) at 90", press.type(0L), 90);
        Check.thrown("type of 1 at 90", Check.STATE, () -> press.type(Check.pack(";")));
        Check.thrown("type of a wrong sign at 90", Check.ARGUMENT, () -> press.type(Check.pack("a ")));
        Check.thrown("type of a wrong sign first at 90", Check.ARGUMENT, () -> press.type(Check.pack("\177aaaaaaa")));
        Check.same("fault() at 90", press.fault(), -2);
        Check.same("compile() at 90", press.compile(), 4);
        Check.same("clear() at 90", press.clear(), 90);
        Check.same("type after clear()", press.type(Check.pack("e;")), 2);
    }
}

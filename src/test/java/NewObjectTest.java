/** Promise 1. */
public final class NewObjectTest {
    public static void main(String[] args) {
        Check.same("clear() of a new object", new DiagramPress().clear(), 0);
        Check.same("fault() of a new object", new DiagramPress().fault(), -2);
        Check.same("type(0) of a new object", new DiagramPress().type(0L), 0);
        DiagramPress press = new DiagramPress();
        Check.thrown("rank(0)", Check.MISSING, () -> press.rank(0));
        Check.thrown("position(0)", Check.MISSING, () -> press.position(0));
        Check.thrownByDouble("x(0)", Check.MISSING, () -> press.x(0));
        Check.thrown("edge(0, 1, false)", Check.MISSING, () -> press.edge(0, 1, false));
        Check.thrown("edge(0, 1, true)", Check.MISSING, () -> press.edge(0, 1, true));
        Check.thrownByDouble("bend(0, 1, 0)", Check.MISSING, () -> press.bend(0, 1, 0));
        Check.thrown("bendPosition(0, 1, 0)", Check.MISSING, () -> press.bendPosition(0, 1, 0));
        Check.thrown("pixel(0, 0)", Check.MISSING, () -> press.pixel(0, 0));
        for (int what = 0; what <= 18; what++) {
            int asked = what;
            Check.thrown("count(" + what + ")", Check.MISSING, () -> press.count(asked));
        }
        objectsShareNothing();
        Check.end();
    }

    private static void objectsShareNothing() {
        DiagramPress first = Check.compiled("a>b;");
        DiagramPress second = Check.compiled("c;");
        Check.same("the first object's rank(1)", first.rank(1), 1);
        Check.same("the first object's text", first.clear(), 4);
        Check.same("the second object's text", second.clear(), 2);
        Check.thrown("the second object's rank(1)", Check.MISSING, () -> second.rank(1));
    }
}

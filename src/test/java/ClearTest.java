/** Promise 3. */
public final class ClearTest {
    public static void main(String[] args) {
        DiagramPress press = Check.typed("a>b;b>c;d");
        Check.same("clear()", press.clear(), 9);
        Check.same("clear() again", press.clear(), 0);
        Check.same("fault() of nothing", press.fault(), -2);
        Check.same("type behind it", press.type(Check.pack("e>f;")), 4);
        Check.same("compile()", press.compile(), 2);
        Check.thrown("rank(0), which was cleared", Check.MISSING, () -> press.rank(0));
        theDrawingStays();
        Check.end();
    }

    private static void theDrawingStays() {
        DiagramPress press = Check.compiled("a>b;");
        Check.same("clear() of a drawn text", press.clear(), 4);
        Check.same("rank(1) after clear()", press.rank(1), 1);
        Check.same("pixel(3, 1) after clear()", press.pixel(3, 1), 'a');
        press.type(Check.pack("%%"));
        Check.same("count(0) after type", press.count(0), 2);
        Check.same("edge(0, 1, false) after type", press.edge(0, 1, false), 1);
    }
}

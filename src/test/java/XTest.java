/** Promise 8. */
public final class XTest {
    public static void main(String[] args) {
        xs("a;", 'a', 1.5);
        xs("!a9;", 'a', 4.5);
        xs("!a9;!a2;", 'a', 1.0);
        xs("a;b;!b4;c;", 'a', 1.5, 'b', 6.0, 'c', 10.5);
        xs("a>b;", 'a', 1.5, 'b', 1.5);
        // Down: c is pushed to 4; up: a wishes 2; down: b 2, c 6; up: a 4; then 0.5 is taken off.
        xs("a>b;a>c;", 'a', 3.5, 'b', 1.5, 'c', 5.5);
        // With weight 3 on a, c: up: a wishes 3; down: b 3, c 7; up: a (3 + 3 * 7) / 4 = 6; then 1.5 is taken off.
        xs("a>b;a>c3;", 'a', 4.5, 'b', 1.5, 'c', 5.5);
        // Down: c wishes 2 of a at 0, b at 4; up: a 2, b 6; down: c 4; up: a 4, b 8; then 2.5 is taken off.
        xs("a>c;b>c;", 'a', 1.5, 'b', 5.5, 'c', 1.5);
        // The widest decides what is taken off, though its x is not the least: b at 0 is 9 wide.
        xs("!b9;a>b;", 'a', 4.5, 'b', 4.5);
        // Without a segment on the side the x stays: c beside b.
        xs("a>b;=bc;", 'a', 1.5, 'b', 1.5, 'c', 5.5);
        sumsGoInOrder();
        wrongNodes();
        Check.end();
    }

    private static void xs(String text, Object... due) {
        DiagramPress press = Check.compiled(text);
        for (int i = 0; i < due.length; i += 2) {
            int node = (Character) due[i] - 'a';
            Check.same("x(" + node + ") of " + text, press.x(node), (Double) due[i + 1]);
        }
    }

    private static void sumsGoInOrder() {
        // The thirds that the passes divide by leave a rounding that shows in what order was added.
        DiagramPress press = Check.compiled("a>b>c;a>c2;!b5;");
        Check.same("x(1)", press.x(1), 2.5);
        Check.same("bend(0, 2, 0)", press.bend(0, 2, 0), 6.500000000000001);
    }

    private static void wrongNodes() {
        for (DiagramPress press : new DiagramPress[] {new DiagramPress(), Check.compiled("a>l;")}) {
            for (int node : new int[] {-1, 12, Integer.MIN_VALUE, Integer.MAX_VALUE}) {
                Check.thrownByDouble("x(" + node + ")", Check.ARGUMENT, () -> press.x(node));
            }
        }
        Check.thrownByDouble("x(1), not there", Check.MISSING, () -> Check.compiled("a>l;").x(1));
    }
}

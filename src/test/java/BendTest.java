/** Promises 10 and 11. */
public final class BendTest {
    public static void main(String[] args) {
        bendsOfOneEdge();
        bendsGoFromTheUpperEndOn();
        bendsOfATurnedEdge();
        bendsStandBehindNodesAndInOrder();
        none();
        wrongNumbers();
        Check.end();
    }

    private static void bendsOfOneEdge() {
        DiagramPress press = Check.compiled("a>b>c;a>c;");
        // Down: b 0, the bend 3, c 1.5; up: b 1.5, the bend 4.5, a 3; down: b 3, the bend 6, c 4.5; up: b 4.5,
        // the bend 7.5, a 6; then 3 is taken off.
        Check.same("bend(0, 2, 0)", press.bend(0, 2, 0), 4.5);
        Check.same("x(1)", press.x(1), 1.5);
        Check.same("x(0)", press.x(0), 3.0);
        Check.same("x(2)", press.x(2), 1.5);
        Check.same("bendPosition(0, 2, 0)", press.bendPosition(0, 2, 0), 1);
        Check.same("position(1)", press.position(1), 0);
    }

    private static void bendsGoFromTheUpperEndOn() {
        // Only the first rank below a has two nodes more, so that bend 0 stands at position 3 and bend 1 at 1.
        DiagramPress press = Check.compiled("a>b>c>d;a>e;a>f;a>d;");
        Check.same("bendPosition(0, 3, 0)", press.bendPosition(0, 3, 0), 3);
        Check.same("bendPosition(0, 3, 1)", press.bendPosition(0, 3, 1), 1);
        Check.thrown("bendPosition(0, 3, 2)", Check.MISSING, () -> press.bendPosition(0, 3, 2));
        Check.thrownByDouble("bend(0, 3, 2)", Check.MISSING, () -> press.bend(0, 3, 2));
        boolean further = press.bend(0, 3, 0) > press.bend(0, 3, 1);
        Check.same("bend 0 stands further to the right", further ? 1 : 0, 1);
    }

    private static void bendsOfATurnedEdge() {
        DiagramPress press = Check.compiled("a>b>c>a;");
        Check.same("bend(0, 2, 0)", press.bend(0, 2, 0), 4.5);
        Check.same("bendPosition(0, 2, 0)", press.bendPosition(0, 2, 0), 1);
        Check.thrownByDouble("bend(2, 0, 0)", Check.MISSING, () -> press.bend(2, 0, 0));
        Check.thrown("bendPosition(2, 0, 0)", Check.MISSING, () -> press.bendPosition(2, 0, 0));
    }

    private static void bendsStandBehindNodesAndInOrder() {
        DiagramPress press = Check.compiled("a>b>c>d;a>d;a>c;");
        // On rank 1 stand b, the bend of a, c and that of a, d; on rank 2 c and that of a, d: no crossing.
        Check.same("bendPosition(0, 2, 0)", press.bendPosition(0, 2, 0), 1);
        Check.same("bendPosition(0, 3, 0)", press.bendPosition(0, 3, 0), 2);
        Check.same("bendPosition(0, 3, 1)", press.bendPosition(0, 3, 1), 1);
        Check.same("count(2)", press.count(2), 0);
        // A bend is 1 wide: at least 1 + (1 + 1) / 2 to the next bend, and 1 + (3 + 1) / 2 to a node.
        Check.same("from bend to bend", press.bend(0, 3, 0) - press.bend(0, 2, 0), 2.0);
    }

    private static void none() {
        DiagramPress press = Check.compiled("a>b>c;a>c;");
        for (int u = 0; u < 12; u++) {
            for (int v = 0; v < 12; v++) {
                int from = u;
                int to = v;
                int first = u == 0 && v == 2 ? 1 : 0;
                for (int k : new int[] {first, first + 1, 12, Integer.MAX_VALUE}) {
                    String call = "(" + u + ", " + v + ", " + k + ")";
                    Check.thrownByDouble("bend" + call, Check.MISSING, () -> press.bend(from, to, k));
                    Check.thrown("bendPosition" + call, Check.MISSING, () -> press.bendPosition(from, to, k));
                }
            }
        }
    }

    private static void wrongNumbers() {
        for (DiagramPress press : new DiagramPress[] {new DiagramPress(), Check.compiled("a>b>c;a>c;")}) {
            for (int bad : new int[] {-1, 12, Integer.MIN_VALUE, Integer.MAX_VALUE}) {
                Check.thrownByDouble("bend(" + bad + ", 2, 0)", Check.ARGUMENT, () -> press.bend(bad, 2, 0));
                Check.thrownByDouble("bend(0, " + bad + ", 0)", Check.ARGUMENT, () -> press.bend(0, bad, 0));
                Check.thrown("bendPosition(" + bad + ", 2, 0)", Check.ARGUMENT, () -> press.bendPosition(bad, 2, 0));
                Check.thrown("bendPosition(0, " + bad + ", 0)", Check.ARGUMENT, () -> press.bendPosition(0, bad, 0));
            }
            for (int bad : new int[] {-1, Integer.MIN_VALUE}) {
                Check.thrownByDouble("bend(0, 2, " + bad + ")", Check.ARGUMENT, () -> press.bend(0, 2, bad));
                Check.thrown("bendPosition(0, 2, " + bad + ")", Check.ARGUMENT, () -> press.bendPosition(0, 2, bad));
            }
        }
    }
}

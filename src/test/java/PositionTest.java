/** Promise 7. */
public final class PositionTest {
    public static void main(String[] args) {
        positions("c;a;b;", "a0 b1 c2");
        // One crossing at first; the sweep down puts d, reached from a, before c.
        positions("a>d;b>c;", "a0 b1 c1 d0");
        // The means of c, d, e are 2/2, 0/1 and 1/2.
        positions("a>e;b>e;b>c2;a>d;", "a0 b1 c2 d0 e1");
        // The mean of d is (0 + 3 * 2) / 4, so that e with 1 comes first; then a sweep up puts b first.
        positions("a>d;c>d3;b>e;", "a1 b0 c2 d1 e0");
        // No crossing at first: that order stays although the means of b, c are 2 and 1.
        positions("a;e;f>b;=bc;", "a0 b0 c1 e1 f2");
        // Equal means keep the order before.
        positions("a>e;b>c;b>d;", "a0 b1 c1 d2 e0");
        // Without a segment from above the mean of d is its own position.
        positions("a>e;b>c;=cde;", "a0 b1 c1 d2 e0");
        // A bend stands behind the nodes of its rank at first: b and the bend of a, c.
        positions("a>c;a>b>c;", "a0 b0 c0");
        wrongNodes();
        Check.end();
    }

    private static void positions(String text, String due) {
        DiagramPress press = Check.compiled(text);
        for (String one : due.split(" ")) {
            int node = one.charAt(0) - 'a';
            Check.same("position(" + node + ") of " + text, press.position(node), one.charAt(1) - '0');
        }
    }

    private static void wrongNodes() {
        for (DiagramPress press : new DiagramPress[] {new DiagramPress(), Check.compiled("a>l;")}) {
            for (int node : new int[] {-1, 12, Integer.MIN_VALUE, Integer.MAX_VALUE}) {
                Check.thrown("position(" + node + ")", Check.ARGUMENT, () -> press.position(node));
            }
        }
        Check.thrown("position(1), not there", Check.MISSING, () -> Check.compiled("a>l;").position(1));
    }
}

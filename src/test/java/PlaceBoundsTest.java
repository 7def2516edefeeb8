/** The bounds of promises 8 and 10: where places stand, sentence by sentence. */
public final class PlaceBoundsTest {
    private static final String CHAIN = "a>b>c>d>e>f>g>h>i>j>k>l;";

    public static void main(String[] args) {
        packed();
        notBelowTheLeast();
        theFirstPlaceGetsItsWish();
        ownX();
        fourPasses();
        sumsInOrder();
        fromTheLeftSide();
        bends();
        ends();
        Check.end();
    }

    private static void packed() {
        Check.about("the first has 0.0; the next one's is the LEAST one");
        // In the end half the first one's width is added to all.
        xs("a;", "a1.5");
        xs("!a1;!b1;", "a0.5 b2.5");
        xs("!a1;!b2;", "a0.5 b3.0");
        xs("!a9;!b9;", "a4.5 b14.5");
        xs("!a9;!l1;", "a4.5 l10.5");
        DiagramPress press = Check.compiled("=abcdefghijkl;");
        for (int node = 0; node < 12; node++) {
            Check.same("x(" + node + ") of twelve in a row", press.x(node), 1.5 + 4.0 * node);
        }
    }

    private static void notBelowTheLeast() {
        Check.about("its X becomes the WISH, but not below the LEAST one");
        // d wishes 4, the least itself.
        xs("a>c;b>d;", "a1.5 b5.5 c1.5 d5.5");
        // d wishes 10, above the least.
        xs("!a9;!b9;a>c;b>d;", "a4.5 b14.5 c4.5 d14.5");
        // c wishes where b stands.
        xs("a>b;a>c;", "a3.5 b1.5 c5.5");
    }

    private static void theFirstPlaceGetsItsWish() {
        Check.about("(for the first place: the WISH)");
        // Pass 1: e 4, b 4, a 4, d 8. 2: b 7, e 7, f 1.75. 3: c 1.75, e 5.75, b falls to 5.75, a 5.75, d 9.75.
        // 4: b 8.75, e 8.75, f 3.5. Then 0.25 is taken off.
        xs("f>c3;b>d3;f>e>b>a;", "a5.5 b8.5 c1.5 d9.5 e8.5 f3.25");
    }

    private static void ownX() {
        Check.about("without such its own X");
        // Pass 1: f 0, g 4, d 4, e 8. 2: f 0, g 6. 3: g stays at 6 though 4 is the least, d 6, e 10. 4: g 8.
        xs("g>d;g>e;=fg;a>f;", "a1.5 d7.5 e11.5 f1.5 g9.5");
        // Pass 1: f 0, g 4. 2: d 4, e 8. 3: g 6. 4: g stays at 6 though 4 is the least, d 6, e 10.
        xs("d>g;e>g;=fg;f>a;", "a1.5 d7.5 e11.5 f1.5 g7.5");
        // Pass 2: d, the first place, stays at 0. 3: d 2, e 6. 4: d stays at 2, b 4.
        xs("b>d;b>e>c;", "b3.5 c5.5 d1.5 e5.5");
    }

    private static void fourPasses() {
        Check.about("Then four PASSES, the first and third down, the others up");
        // b and c stand at 0 and 4, a goes to 2, b and c to 2 and 6, a to 4; one pass more would end elsewhere.
        xs("a>b;a>c;", "a3.5 b1.5 c5.5");
        // c goes to 2, a and b to 2 and 6, c to 4, a and b to 4 and 8.
        xs("a>c;b>c;", "a1.5 b5.5 c1.5");
        // Only one rank: no pass.
        xs("a;b;", "a1.5 b5.5");
    }

    private static void sumsInOrder() {
        Check.about("(in the order in which they were made)");
        DiagramPress press = Check.compiled("a>b>c;a>c2;!b5;");
        Check.same("bend(0, 2, 0)", press.bend(0, 2, 0), 6.500000000000001);
    }

    private static void fromTheLeftSide() {
        Check.about("the least X less half the WIDTH, over all places, is subtracted from all X");
        // b stands where a does, but reaches further to the left.
        xs("!b9;a>b;", "a4.5 b4.5");
        xs("!a9;a>b;", "a4.5 b4.5");
        xs("!a1;!b1;a>b;", "a0.5 b0.5");
        // By rounding, a bend lies a little left of all nodes here: it is the one that gets half its width.
        DiagramPress press = Check.compiled("!c1;d>c>b3;f>d>b;b>d3>d;");
        Check.same("bend(1, 2, 0)", press.bend(1, 2, 0), 0.5);
        Check.same("x(2)", press.x(2), 0.5000000000000004);
    }

    private static void bends() {
        Check.about("k from 0 (below 0: IllegalArgumentException); there is none: NoSuchElementException");
        DiagramPress press = Check.compiled(CHAIN + "a>l;");
        // All nodes stand below each other, and all bends, which are 1 wide, as near as they may.
        for (int k = 0; k <= 9; k++) {
            Check.same("bend(0, 11, " + k + ")", press.bend(0, 11, k), press.x(k + 1) + 3.0);
        }
        bend(press, 0, 11, -1, Check.ARGUMENT);
        bend(press, 0, 11, Integer.MIN_VALUE, Check.ARGUMENT);
        bend(press, 0, 11, 10, Check.MISSING);
        bend(press, 0, 11, Integer.MAX_VALUE, Check.MISSING);
        bend(press, 0, 1, 0, Check.MISSING);
        bend(press, 0, 0, 0, Check.MISSING);
        bend(press, 11, 0, 0, Check.MISSING);
        bend(press, 11, 11, 0, Check.MISSING);
        bend(press, 11, 11, -1, Check.ARGUMENT);
        bend(press, -1, 11, 0, Check.ARGUMENT);
        bend(press, 12, 11, 0, Check.ARGUMENT);
        bend(press, 0, -1, 0, Check.ARGUMENT);
        bend(press, 0, 12, 0, Check.ARGUMENT);
        bend(Check.compiled("a;"), 10, 11, 0, Check.MISSING);
        // The bends of a turned edge are those of the edge that it became.
        DiagramPress turned = Check.compiled(CHAIN + "l>a;");
        Check.same("bend(0, 11, 9)", turned.bend(0, 11, 9), press.bend(0, 11, 9));
        bend(turned, 11, 0, 0, Check.MISSING);
    }

    private static void bend(DiagramPress press, int u, int v, int k, Class<? extends RuntimeException> due) {
        String call = "(" + u + ", " + v + ", " + k + ")";
        Check.thrownByDouble("bend" + call, due, () -> press.bend(u, v, k));
        Check.thrown("bendPosition" + call, due, () -> press.bendPosition(u, v, k));
    }

    private static void ends() {
        Check.about("Its X");
        DiagramPress press = Check.compiled("a>l;");
        xs("a>l;", "a1.5 l1.5");
        for (int node : new int[] {-1, 12}) {
            Check.thrownByDouble("x(" + node + ")", Check.ARGUMENT, () -> press.x(node));
        }
        for (int node = 1; node <= 10; node++) {
            int asked = node;
            Check.thrownByDouble("x(" + node + "), not there", Check.MISSING, () -> press.x(asked));
        }
    }

    private static void xs(String text, String due) {
        DiagramPress press = Check.compiled(text);
        for (String one : due.split(" ")) {
            int node = one.charAt(0) - 'a';
            Check.same("x(" + node + ") of " + text, press.x(node), Double.parseDouble(one.substring(1)));
        }
    }
}

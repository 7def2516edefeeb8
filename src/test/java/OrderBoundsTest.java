/** The bounds of promises 7, 11 and 13 in the order of places, sentence by sentence. */
public final class OrderBoundsTest {
    private static final String CHAIN = "a>b>c>d>e>f>g>h>i>j>k>l;";

    public static void main(String[] args) {
        firstPositions();
        sweepsDown();
        sweepsUp();
        ownPositions();
        meansAreDoubles();
        sameMeans();
        crossings();
        theFirstOrderWithTheLeast();
        sixSweeps();
        ends();
        Check.end();
    }

    private static void firstPositions() {
        Check.about("at first the nodes in order, then the BENDS in the order in which they were made");
        positions("l;k;j;i;h;g;f;e;d;c;b;a;", "a0 b1 c2 d3 e4 f5 g6 h7 i8 j9 k10 l11");
        positions("l;", "l0");
        DiagramPress press = Check.compiled("a>b>c>d;a>d;a>c;");
        Check.same("position(1)", press.position(1), 0);
        Check.same("bendPosition(0, 2, 0)", press.bendPosition(0, 2, 0), 1);
        Check.same("bendPosition(0, 3, 0)", press.bendPosition(0, 3, 0), 2);
        Check.same("bendPosition(0, 3, 1)", press.bendPosition(0, 3, 1), 1);
        DiagramPress longest = Check.compiled(CHAIN + "a>l;");
        for (int k = 0; k <= 9; k++) {
            Check.same("bendPosition(0, 11, " + k + ")", longest.bendPosition(0, 11, k), 1);
        }
        Check.thrown("bendPosition(0, 11, 10)", Check.MISSING, () -> longest.bendPosition(0, 11, 10));
    }

    private static void sweepsDown() {
        Check.about("go down: for RANKS 1, 2, .. to the last");
        // Both lower ranks change in the first sweep: d stands first below a, and e follows d.
        positions("a>d>f;b>c>e;", "a0 b1 c1 d0 e1 f0");
        positions("a>d;b>c;", "a0 b1 c1 d0");
    }

    private static void sweepsUp() {
        Check.about("the others up: from the last RANK but one to 0");
        // Down: e 1, d 1.5; up: b 0, a and c 1.
        positions("a>d;c>d3;b>e;", "a1 b0 c2 d1 e0");
    }

    private static void ownPositions() {
        Check.about("without such its own POSITION");
        // Down: c 1, d its own 1, e 0.
        positions("a>e;b>c;=cde;", "a0 b1 c1 d2 e0");
        // Down: e 9 / 4, f 2, one crossing stays; up: a 1, b its own 1, c 0, d 1.
        positions("a>e;d>e3;c>f;b;", "a1 b2 c0 d3 e1 f0");
    }

    private static void meansAreDoubles() {
        Check.about("the sum of WEIGHT times POSITION of the other end, as a double, divided by the sum of the WEIGHTS");
        // c has the mean 0.5, d 0.
        positions("a>c;b>c;a>d;", "a0 b1 c1 d0");
        // d has the mean 9 / 10, e 8 / 9.
        positions("a>d;b>d9;a>e;b>e8;", "a0 b1 d1 e0");
    }

    private static void sameMeans() {
        Check.about("those with the same in the order before");
        positions("a>f;b>c;b>d;b>e;", "a0 b1 c1 d2 e3 f0");
        // 2 / 4 and 1 / 2 are the same.
        positions("a>e;a>c2;b>c2;a>d;b>d;", "a0 b1 c1 d2 e0");
    }

    private static void crossings() {
        Check.about("whose upper ends are one way round and whose lower ends are the other way round");
        crossings("a>d;b>c;", 1, 0);
        crossings("a>c;b>d;", 0, 0);
        crossings("a>c;a>d;b>d;", 0, 0);
        crossings("a>c;b>c;", 0, 0);
        crossings("a>c;a>d;b>c;b>d;", 1, 1);
        // The bend of a, c stands behind b, but c before d.
        crossings("a>b>c;a>c;b>d;", 1, 0);
        // The same way round, but between other ranks.
        crossings("a>b>c;a>d;", 0, 0);
        Check.about("the product of their WEIGHTS, all added");
        crossings("a>d9;b>c9;", 81, 0);
        crossings("a>f2;b>e3;c>d4;", 2 * 3 + 2 * 4 + 3 * 4, 0);
        crossings(CHAIN, 0, 0);
        crossings("", 0, 0);
    }

    private static void theFirstOrderWithTheLeast() {
        Check.about("the first with the least CROSSINGS");
        // Up, the mean of g is 0, and g would stand before e; but the first order has no crossing either.
        positions("=ae;g>f;", "a0 e1 g2 f0");
        // After the first sweep there is no crossing; the second puts h before g, with none as well.
        positions("c>f;=ge;h>b;", "c0 e1 g2 h3 b1 f0");
        crossings("c>f;=ge;h>b;", 1, 0);
    }

    private static void sixSweeps() {
        Check.about("Then six SWEEPS");
        // The order after the sixth sweep is the first with one crossing; the fifth leaves two.
        crossings("g>d;h>c2>f;d>c3>a;f>b>c;g>f4;", 12, 1);
        // A seventh would leave none.
        crossings("h>f>d;c>a>g2;f>a>b3;c>f;b>c>b;e>c4;", 4, 3);
    }

    private static void ends() {
        Check.about("Its POSITION");
        DiagramPress press = Check.compiled("a>l;");
        Check.same("position(0)", press.position(0), 0);
        Check.same("position(11)", press.position(11), 0);
        for (int node : new int[] {-1, 12}) {
            Check.thrown("position(" + node + ")", Check.ARGUMENT, () -> press.position(node));
        }
        for (int node = 1; node <= 10; node++) {
            int asked = node;
            Check.thrown("position(" + node + "), not there", Check.MISSING, () -> press.position(asked));
        }
    }

    private static void positions(String text, String due) {
        DiagramPress press = Check.compiled(text);
        for (String one : due.split(" ")) {
            int node = one.charAt(0) - 'a';
            Check.same("position(" + node + ") of " + text, press.position(node), Integer.parseInt(one.substring(1)));
        }
    }

    private static void crossings(String text, int first, int kept) {
        DiagramPress press = Check.compiled(text);
        Check.same("count(2) of " + text, press.count(2), first);
        Check.same("count(3) of " + text, press.count(3), kept);
    }
}

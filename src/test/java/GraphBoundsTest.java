/** The bounds of promises 5, 6 and 9: weights, cycles, ranks and places, sentence by sentence. */
public final class GraphBoundsTest {
    private static final String CHAIN = "a>b>c>d>e>f>g>h>i>j>k>l;";

    public static void main(String[] args) {
        nodesInTheText();
        edgesToTheSameNode();
        weightsInSum();
        noEdge();
        turnedWeights();
        widths();
        leastRanks();
        noRanks();
        bendsBetweenRanks();
        sixtyPlaces();
        refusedInOrder();
        theEmptyDrawing();
        nodesOfRank();
        nodesOfEdge();
        Check.end();
    }

    private static void nodesInTheText() {
        Check.about("A node that is in the text is THERE");
        for (String text : new String[] {"a;", "l;", "!f1;", "=cc;", "g>g;", "a>b;", "=kl;", "c;!d2;=ef;g>h9;"}) {
            DiagramPress press = Check.compiled(text);
            int there = 0;
            for (int node = 0; node < 12; node++) {
                int asked = node;
                if (text.indexOf('a' + node) >= 0) {
                    there++;
                    Check.same("rank(" + node + ") of " + text, press.rank(node), text.contains(">" + (char) ('a' + node))
                        && !text.equals("g>g;") ? 1 : 0);
                } else {
                    Check.thrown("rank(" + node + ") of " + text, Check.MISSING, () -> press.rank(asked));
                }
            }
            Check.same("count(4) of " + text, press.count(4), there);
        }
        Check.about("with the weight, 1 without");
        weight("a>b;", 'a', 'b', 1);
        weight("a>b1;", 'a', 'b', 1);
        weight("a>b>c9;", 'a', 'b', 1);
        weight("a>b>c9;", 'b', 'c', 9);
    }

    private static void nodesOfRank() {
        Check.about("node 0 .. 11. The RANK of a node in the DRAWING; it is not THERE: NoSuchElementException");
        DiagramPress press = Check.compiled("a>l;");
        Check.same("rank(0)", press.rank(0), 0);
        Check.same("rank(11)", press.rank(11), 1);
        for (int node : new int[] {-1, 12, Integer.MIN_VALUE, Integer.MAX_VALUE}) {
            Check.thrown("rank(" + node + ")", Check.ARGUMENT, () -> press.rank(node));
        }
        for (int node : new int[] {1, 10}) {
            Check.thrown("rank(" + node + ")", Check.MISSING, () -> press.rank(node));
        }
    }

    private static void nodesOfEdge() {
        Check.about("u, v 0 .. 11");
        DiagramPress press = Check.compiled("a>l7;");
        for (boolean turned : new boolean[] {false, true}) {
            Check.same("edge(0, 11, " + turned + ")", press.edge(0, 11, turned), turned ? 0 : 7);
            Check.same("edge(11, 0, " + turned + ")", press.edge(11, 0, turned), 0);
            Check.same("edge(0, 0, " + turned + ")", press.edge(0, 0, turned), 0);
            Check.same("edge(11, 11, " + turned + ")", press.edge(11, 11, turned), 0);
            for (int bad : new int[] {-1, 12, Integer.MIN_VALUE, Integer.MAX_VALUE}) {
                for (int good : new int[] {0, 11}) {
                    Check.thrown("edge(" + bad + ", " + good + ")", Check.ARGUMENT, () -> press.edge(bad, good, turned));
                    Check.thrown("edge(" + good + ", " + bad + ")", Check.ARGUMENT, () -> press.edge(good, bad, turned));
                }
                Check.thrown("edge(" + bad + ", " + bad + ")", Check.ARGUMENT, () -> press.edge(bad, bad, turned));
            }
        }
    }

    private static void edgesToTheSameNode() {
        Check.about("an edge from a node to itself counts for nothing");
        for (String text : new String[] {"a>a;", "a>a9;", "a>a>a5>a;", "a>a9;a>a9;"}) {
            DiagramPress press = Check.compiled(text);
            Check.same("rank(0) of " + text, press.rank(0), 0);
            Check.same("edge(0, 0, false) of " + text, press.edge(0, 0, false), 0);
            Check.same("edge(0, 0, true) of " + text, press.edge(0, 0, true), 0);
            Check.same("count(0) of " + text, press.count(0), 1);
            Check.same("count(5) of " + text, press.count(5), 0);
            Check.same("count(6) of " + text, press.count(6), 0);
        }
        weight("l>l;", 'l', 'l', 0);
        weight("a>b>b7>c2;", 'a', 'b', 1);
        weight("a>b>b7>c2;", 'b', 'b', 0);
        weight("a>b>b7>c2;", 'b', 'c', 2);
        Check.same("compile() with it in a group", Check.typed("=ab;a>a;b>b2;").compile(), 2);
    }

    private static void weightsInSum() {
        Check.about("the sum over all edges from u to v, but at most 9");
        weight("a>b4;a>b4;", 'a', 'b', 8);
        weight("a>b8;a>b;", 'a', 'b', 9);
        weight("a>b8;a>b2;", 'a', 'b', 9);
        weight("a>b9;a>b;", 'a', 'b', 9);
        weight("a>b9;a>b9;", 'a', 'b', 9);
        weight("a>b;".repeat(8), 'a', 'b', 8);
        weight("a>b;".repeat(9), 'a', 'b', 9);
        weight("a>b;".repeat(22), 'a', 'b', 9);
        weight("k>l9;".repeat(18), 'k', 'l', 9);
        // 9 of a, d times 1 of b, c, not 18 times 1.
        Check.same("count(2)", Check.compiled("a>d9;a>d9;b>c;").count(2), 9);
    }

    private static void noEdge() {
        Check.about("0: there is none");
        DiagramPress press = Check.compiled("a>b9;=cd;!e1;");
        for (int u = 0; u < 12; u++) {
            for (int v = 0; v < 12; v++) {
                Check.same("edge(" + u + ", " + v + ", false)", press.edge(u, v, false), u == 0 && v == 1 ? 9 : 0);
                Check.same("edge(" + u + ", " + v + ", true)", press.edge(u, v, true), 0);
            }
        }
    }

    private static void turnedWeights() {
        Check.about("the sum of it and WEIGHT u, v, but at most 9");
        turned("a>b4>a4;", 'b', 'a', 8);
        turned("a>b4>a5;", 'b', 'a', 9);
        turned("a>b5>a5;", 'b', 'a', 9);
        turned("a>b9>a9;", 'b', 'a', 9);
        turned("a>b9>a;", 'b', 'a', 9);
        turned("a>b>a9;", 'b', 'a', 9);
        turned("k>l>k7;", 'l', 'k', 8);
        // There was no edge a, c, so that the sum is the weight of c, a alone.
        turned("a>b>c>a9;", 'c', 'a', 9);
        turned("a>b>c>a;", 'c', 'a', 1);
        turned("a>b>c>a8;a>c;", 'c', 'a', 9);
        turned("a>b>c>a8;a>c2;", 'c', 'a', 9);
        // Two edges b, a are one that is TURNED, with the weight of both.
        turned("a>b>a2>b>a3;", 'b', 'a', 7);
        turned(CHAIN + "l>a9;", 'l', 'a', 9);
    }

    private static void turned(String text, char u, char v, int due) {
        DiagramPress press = Check.compiled(text);
        weight(text, v, u, due);
        weight(text, u, v, 0);
        Check.same("the edge " + u + ", " + v + " turned in " + text, press.edge(u - 'a', v - 'a', true), 1);
        Check.same("the edge " + v + ", " + u + " turned in " + text, press.edge(v - 'a', u - 'a', true), 0);
        Check.same("count(6) of " + text, press.count(6), 1);
    }

    private static void widths() {
        Check.about("A node's WIDTH is that of its last width, 3 without");
        // A node alone stands at half its width.
        for (int width = 1; width <= 9; width++) {
            Check.same("x(0) at width " + width, Check.compiled("!a" + width + ";").x(0), width / 2.0);
            Check.same("x(0) at the last width", Check.compiled("!a9;!a1;a;!a" + width + ";").x(0), width / 2.0);
        }
        Check.same("x(0) without", Check.compiled("a;").x(0), 1.5);
        Check.same("x(11) of a full text", Check.compiled("!l9;".repeat(21) + "!l7;").x(11), 3.5);
    }

    private static void leastRanks() {
        Check.about("the least numbers from 0 on");
        ranks(CHAIN, 0, 1, 2, 3, 4, 5, 6, 7, 8, 9, 10, 11);
        ranks("l>k>j>i>h>g>f>e>d>c>b>a;", 11, 10, 9, 8, 7, 6, 5, 4, 3, 2, 1, 0);
        ranks("=abcdefghijkl;", 0, 0, 0, 0, 0, 0, 0, 0, 0, 0, 0, 0);
        ranks("a>b;a>c;a>d;a>e;a>f;a>g;a>h;a>i;a>j;a>k;a>l;", 0, 1, 1, 1, 1, 1, 1, 1, 1, 1, 1, 1);
        Check.about("nodes of a group have one RANK, and so do those of groups that share a node, and so on");
        ranks("=bc;=de;=fg;=hi;=jk;a>b;c>d;e>f;g>h;i>j;k>l;", 0, 1, 1, 2, 2, 3, 3, 4, 4, 5, 5, 6);
        ranks("=ab;=cd;=ef;=gh;=ij;=bc;=de;=fg;=hi;k>l>j;", 2, 2, 2, 2, 2, 2, 2, 2, 2, 2, 0, 1);
        ranks("=aa;=ll;=al;b>c>d>e>f>g>h>i>j>k>a;", 10, 0, 1, 2, 3, 4, 5, 6, 7, 8, 9, 10);
    }

    private static void ranks(String text, int... due) {
        DiagramPress press = Check.compiled(text);
        for (int node = 0; node < 12; node++) {
            Check.same("rank(" + node + ") of " + text, press.rank(node), due[node]);
        }
    }

    private static void noRanks() {
        Check.about("There are none such: CONFLICT");
        conflict("a>b;=ab;");
        conflict("=ab;a>b;");
        conflict("=ab;b>a;");
        conflict("a>b>a;=ab;");
        conflict("a>b>c;=ac;");
        conflict("=abcdefghijkl;k>l;");
        conflict(CHAIN + "=al;");
        conflict("=ab;=cd;b>c;d>a;");
        // Round and round over all six groups; without the last one the ranks end at 6.
        conflict("=bc;=de;=fg;=hi;=jk;a>b;c>d;e>f;g>h;i>j;k>l;=la;");
        // Joined only by a chain of groups.
        conflict("=ab;=cd;=ef;=gh;=ij;=kl;=bc;=de;=fg;=hi;=jk;a>l;");
        Check.same("compile() of a group and an edge beside it", Check.typed("=ab;c>d;a>c;").compile(), 4);
    }

    private static void conflict(String text) {
        DiagramPress press = Check.typed(text);
        Check.thrown("compile() of " + text, Check.STATE, press::compile);
        Check.thrown("count(0) after " + text, Check.MISSING, () -> press.count(0));
        Check.same("fault() after " + text, press.fault(), -2);
        Check.same("the length of " + text, press.clear(), text.length());
    }

    private static void bendsBetweenRanks() {
        Check.about("BENDS, one on each RANK between theirs");
        places("a>b;", 2, 1);
        places("a>b>c;a>c;", 4, 4);
        places(CHAIN, 12, 11);
        places(CHAIN + "a>l;", 22, 22);
        places(CHAIN + "l>a;", 22, 22);
        DiagramPress press = Check.compiled(CHAIN + "a>l;");
        for (int rank = 0; rank < 12; rank++) {
            Check.same("count(" + (7 + rank) + ")", press.count(7 + rank), rank == 0 || rank == 11 ? 1 : 2);
        }
    }

    private static void sixtyPlaces() {
        Check.about("More than 60 in all: CONFLICT");
        // Twelve nodes and 10 + 9 + 8 + 7 + 9 + 4 bends are 59 places, and then one or two more.
        String fiftyNine = CHAIN + "a>l;a>k;a>j;a>i;b>l;b>g;";
        places(fiftyNine, 59, 11 + 6 + 47);
        places(fiftyNine + "d>f;", 60, 11 + 7 + 48);
        conflict(fiftyNine + "d>g;");
        conflict(fiftyNine + "d>f;e>g;");
        // The most that 90 signs can ask for: 10 + 2 * 9 + 3 * 8 + 4 * 7 + 5 * 6 bends and one of 5.
        conflict(CHAIN + "a>l;a>k;b>l;a>j;b>k;c>l;a>i;b>j;c>k;d>l;a>h;b>i;c>j;d>k;e>l;a>g;");
        // A weight makes no bend more, and an edge told twice neither.
        places(fiftyNine + "d>f9;d>f;a>l;", 60, 11 + 7 + 48);
        // Eleven nodes and 9 + 8 + 8 + 7 + 7 + 7 + 3 bends, and then one more.
        String eleven = "a>b>c>d>e>f>g>h>i>j>k;a>k;a>j;b>k;a>i;b>j;c>k;";
        places(eleven + "a>e;", 60, 10 + 7 + 49);
        conflict(eleven + "a>f;");
        // Nearly as many edges as a text can tell, 43 after cycles, and as many bends as there may be.
        places("l>g>c>l>h>b>f>e>k>d>e>j>d>b>l>j>f>a>e>g>b>j>j>i>e>c>a>b>e>h>f>g>d>i>b>c>h>d>f>k>c>f>l>k>i;", 60, 91);
        // Turned edges have bends as well.
        places(CHAIN + "l>a;k>a;j>a;i>a;l>b;g>b;f>d;", 60, 11 + 7 + 48);
        conflict(CHAIN + "l>a;k>a;j>a;i>a;l>b;g>b;g>d;");
    }

    private static void places(String text, int due, int segments) {
        DiagramPress press = Check.typed(text);
        Check.same("compile() of " + text, press.compile(), due);
        Check.same("count(0) of " + text, press.count(0), due);
        Check.same("count(5) of " + text, press.count(5), segments);
    }

    private static void refusedInOrder() {
        Check.about("the text is not whole: UnsupportedOperationException; CONFLICT: IllegalStateException");
        for (String text : new String[] {"a>b;=ab", "a>b;=ab;c", "=ab;a>b;%", CHAIN + "=al;;"}) {
            DiagramPress press = Check.typed(text);
            Check.thrown("compile() of " + text, Check.UNSUPPORTED, press::compile);
            Check.same("the length of " + text, press.clear(), text.length());
        }
    }

    private static void theEmptyDrawing() {
        Check.about("Answers how many places it has");
        DiagramPress press = new DiagramPress();
        Check.same("compile() of nothing", press.compile(), 0);
        for (int what = 0; what <= 18; what++) {
            Check.same("count(" + what + ")", press.count(what), 0);
        }
        for (int node = 0; node < 12; node++) {
            int asked = node;
            Check.thrown("rank(" + node + ")", Check.MISSING, () -> press.rank(asked));
            Check.thrown("position(" + node + ")", Check.MISSING, () -> press.position(asked));
            Check.thrownByDouble("x(" + node + ")", Check.MISSING, () -> press.x(asked));
            Check.thrownByDouble("bend(0, " + node + ", 0)", Check.MISSING, () -> press.bend(0, asked, 0));
            Check.thrown("bendPosition(0, " + node + ", 0)", Check.MISSING, () -> press.bendPosition(0, asked, 0));
            Check.same("edge(11, " + node + ", false)", press.edge(11, node, false), 0);
            Check.same("edge(" + node + ", 11, true)", press.edge(node, 11, true), 0);
        }
    }

    private static void weight(String text, char u, char v, int due) {
        int got = Check.compiled(text).edge(u - 'a', v - 'a', false);
        Check.same("the weight of " + u + ", " + v + " in " + text, got, due);
    }
}

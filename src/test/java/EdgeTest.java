/** Promise 9. */
public final class EdgeTest {
    public static void main(String[] args) {
        edges("a>b;", "ab1", "");
        edges("a>b5;", "ab5", "");
        edges("a>b2>c>d9;", "ab2 bc1 cd9", "");
        edges("a>b4;a>b5;", "ab9", "");
        edges("a>b4;a>b6;", "ab9", "");
        edges("a>b9;a>b9;a>b;", "ab9", "");
        edges("a>b;a>b;a>b3;", "ab5", "");
        edges("a>a9;", "", "");
        edges("a>b>b4>c;", "ab1 bc1", "");
        edges("=ab;!c5;", "", "");
        edges("a>b2>a3;", "ab5", "ba");
        edges("a>b5>a5;", "ab9", "ba");
        edges("b>a;a>b;", "ab2", "ba");
        edges("a>b>c>a4;", "ab1 bc1 ac4", "ca");
        edges("a>b>c>a;c>b;d>d;", "ab1 ac1 bc2", "ca cb");
        // From a the walk comes to b, c, d before it sees that b, d is no way back.
        edges("a>b>c>d>b;b>d;", "ab1 bc1 cd1 bd2", "db");
        // b is come to from a first, so that c, b leads to a closed node and stays.
        edges("a>b;a>c;c>b;", "ab1 ac1 cb1", "");
        edges("l>k>l;", "kl2", "lk");
        // All twelve nodes are open when the last one leads back.
        edges("a>b>c>d>e>f>g>h>i>j>k>l>a2;", "ab1 bc1 cd1 de1 ef1 fg1 gh1 hi1 ij1 jk1 kl1 al2", "la");
        edges("a>b>c>d>e>f>g>h>i>j>k>l>k;", "ab1 bc1 cd1 de1 ef1 fg1 gh1 hi1 ij1 jk1 kl2", "lk");
        wrongNumbers();
        Check.end();
    }

    private static void edges(String text, String weights, String turned) {
        DiagramPress press = Check.compiled(text);
        for (int u = 0; u < 12; u++) {
            for (int v = 0; v < 12; v++) {
                String pair = "" + (char) ('a' + u) + (char) ('a' + v);
                int at = weights.indexOf(pair);
                String call = "edge(" + u + ", " + v;
                Check.same(call + ", false) of " + text, press.edge(u, v, false), at < 0 ? 0 : weights.charAt(at + 2) - '0');
                Check.same(call + ", true) of " + text, press.edge(u, v, true), turned.contains(pair) ? 1 : 0);
            }
        }
    }

    private static void wrongNumbers() {
        for (DiagramPress press : new DiagramPress[] {new DiagramPress(), Check.compiled("a>l;")}) {
            for (int node : new int[] {-1, 12, Integer.MIN_VALUE, Integer.MAX_VALUE}) {
                for (boolean turned : new boolean[] {false, true}) {
                    Check.thrown("edge(" + node + ", 0)", Check.ARGUMENT, () -> press.edge(node, 0, turned));
                    Check.thrown("edge(0, " + node + ")", Check.ARGUMENT, () -> press.edge(0, node, turned));
                }
            }
        }
    }
}

/** Promise 6. */
public final class RankTest {
    public static void main(String[] args) {
        ranks("a>b>c;a>d;f;", "a0 b1 c2 d1 f0");
        ranks("a>c;a>b>c;", "a0 b1 c2");
        ranks("c>b>a;", "a2 b1 c0");
        ranks("a>b>c>d>e>f>g>h>i>j>k>l;", "a0 b1 c2 d3 e4 f5 g6 h7 i8 j9 k10 l11");
        ranks("l>k>j>i>h>g>f>e>d>c>b>a;", "a11 b10 c9 d8 e7 f6 g5 h4 i3 j2 k1 l0");
        ranks("a>b>c;=cd;d>e;", "a0 b1 c2 d2 e3");
        ranks("a>b;=bc;=cd;e;=ef;", "a0 b1 c1 d1 e0 f0");
        ranks("=ef;=de;=ad;g>h>a;f>b;", "a2 d2 e2 f2 g0 h1 b3");
        ranks("a>b>c>a;", "a0 b1 c2");
        ranks("b>a>b;", "a0 b1");
        ranks("!d2;=ab;", "a0 b0 d0");
        wrongNodes();
        Check.end();
    }

    private static void ranks(String text, String due) {
        DiagramPress press = Check.compiled(text);
        for (String one : due.split(" ")) {
            int node = one.charAt(0) - 'a';
            Check.same("rank(" + node + ") of " + text, press.rank(node), Integer.parseInt(one.substring(1)));
        }
        for (int node = 0; node < 12; node++) {
            int asked = node;
            if (due.indexOf('a' + node) < 0) {
                Check.thrown("rank(" + node + ") of " + text, Check.MISSING, () -> press.rank(asked));
            }
        }
    }

    private static void wrongNodes() {
        for (DiagramPress press : new DiagramPress[] {new DiagramPress(), Check.compiled("a>l;")}) {
            for (int node : new int[] {-1, 12, 97, Integer.MIN_VALUE, Integer.MAX_VALUE}) {
                Check.thrown("rank(" + node + ")", Check.ARGUMENT, () -> press.rank(node));
            }
        }
    }
}

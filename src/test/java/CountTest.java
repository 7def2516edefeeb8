/** Promise 13. */
public final class CountTest {
    public static void main(String[] args) {
        counts("", 0, 0, 0, 0, 0, 0, 0);
        counts("a;", 1, 1, 0, 0, 1, 0, 0, 1);
        counts("a>b>c;a>c;", 4, 3, 0, 0, 3, 4, 0, 1, 2, 1);
        counts("a>b>c>a;c>b;d>d;", 5, 3, 0, 0, 4, 4, 2, 2, 2, 1);
        counts("a>d;b>c;", 4, 2, 1, 0, 4, 2, 0, 2, 2);
        // Products of weights, whether the ends are nodes or bends.
        counts("a>d3;b>c5;", 4, 2, 15, 0, 4, 2, 0, 2, 2);
        // Segments that share an end do not cross; each of a, b is joined with each of c, d: one crossing stays.
        counts("a>c2;a>d3;b>c4;b>d5;", 4, 2, 12, 10, 4, 4, 0, 2, 2);
        counts("a>b>c>d>e>f>g>h>i>j>k>l;", 12, 12, 0, 0, 12, 11, 0, 1, 1, 1, 1, 1, 1, 1, 1, 1, 1, 1, 1);
        counts("=abcdefghijkl;", 12, 1, 0, 0, 12, 0, 0, 12);
        wrongNumbers();
        Check.end();
    }

    private static void counts(String text, int... due) {
        DiagramPress press = Check.compiled(text);
        for (int what = 0; what <= 18; what++) {
            Check.same("count(" + what + ") of " + text, press.count(what), what < due.length ? due[what] : 0);
        }
    }

    private static void wrongNumbers() {
        for (DiagramPress press : new DiagramPress[] {new DiagramPress(), Check.compiled("a;")}) {
            for (int bad : new int[] {-1, 19, 20, Integer.MIN_VALUE, Integer.MAX_VALUE}) {
                Check.thrown("count(" + bad + ")", Check.ARGUMENT, () -> press.count(bad));
            }
        }
    }
}

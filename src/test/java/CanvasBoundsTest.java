import java.util.List;

/** The bounds of promise 12: what is drawn and where it ends, sentence by sentence. */
public final class CanvasBoundsTest {
    private static final String CHAIN = "a>b>c>d>e>f>g>h>i>j>k>l;";

    public static void main(String[] args) {
        corners();
        emptyAtFirst();
        boxesAtTheRightEnd();
        linesOverTheRightEnd();
        bendsBehindTheRightEnd();
        lastRows();
        columns();
        lines();
        boxes();
        Check.end();
    }

    private static void corners() {
        Check.about("column 0 .. 149, row 0 .. 71");
        DiagramPress press = Check.compiled("a;");
        Check.same("pixel(0, 0)", press.pixel(0, 0), 2);
        Check.same("pixel(149, 0)", press.pixel(149, 0), 0);
        Check.same("pixel(0, 71)", press.pixel(0, 71), 0);
        Check.same("pixel(149, 71)", press.pixel(149, 71), 0);
        // 72 .. 149 are columns, but no rows.
        Check.same("pixel(72, 0)", press.pixel(72, 0), 0);
        for (int bad : new int[] {-1, 150, Integer.MIN_VALUE, Integer.MAX_VALUE}) {
            for (int row : new int[] {0, 71}) {
                Check.thrown("pixel(" + bad + ", " + row + ")", Check.ARGUMENT, () -> press.pixel(bad, row));
            }
        }
        for (int bad : new int[] {-1, 72, 149, Integer.MIN_VALUE, Integer.MAX_VALUE}) {
            for (int column : new int[] {0, 149}) {
                Check.thrown("pixel(" + column + ", " + bad + ")", Check.ARGUMENT, () -> press.pixel(column, bad));
            }
        }
    }

    private static void emptyAtFirst() {
        Check.about("cells 0 at first");
        DiagramPress empty = new DiagramPress();
        empty.compile();
        for (int row = 0; row < 72; row++) {
            cells(empty, row, 0, ".".repeat(150));
        }
        // What an earlier drawing left is gone.
        DiagramPress used = Check.compiled(CHAIN + "a>l;b>k;!a9;!l9;");
        used.clear();
        Check.typeAll(used, "b;");
        used.compile();
        List<String> due = Answers.all(Check.compiled("b;"));
        Answers.same("a used object", Answers.all(used), due);
    }

    private static void boxesAtTheRightEnd() {
        Check.about("what lies outside is not drawn");
        String seven = "!a9;!b9;!c9;!d9;!e9;!f9;!g9;";
        // The box of h ends at column 148 or 150, twice the widths and the gaps before it.
        DiagramPress inside = Check.compiled(seven + "!h4;");
        cells(inside, 0, 138, "#.#########.");
        cells(inside, 1, 138, "#.#:::h:::#.");
        cells(inside, 2, 138, "#.#########.");
        DiagramPress over = Check.compiled(seven + "!h5;");
        cells(over, 0, 138, "#.##########");
        cells(over, 1, 138, "#.#::::h::::");
        cells(over, 2, 138, "#.##########");
        // The letter of h is in the last column, the box of i lies outside.
        DiagramPress half = Check.compiled(seven + "!h9;!i9;");
        cells(half, 0, 138, "#.##########");
        cells(half, 1, 138, "#.#::::::::h");
        cells(half, 2, 138, "#.##########");
        for (DiagramPress press : new DiagramPress[] {inside, over, half}) {
            // Nothing comes up again at the left, one row below.
            cells(press, 1, 0, "#::::::::a::::::::#.#");
            cells(press, 2, 0, "###################.#");
            cells(press, 3, 0, ".".repeat(150));
        }
        Check.same("x(8), outside", half.x(8), 84.5);
    }

    private static void linesOverTheRightEnd() {
        Check.about("what lies outside is not drawn");
        // The columns of b .. j are 9, 29, .. 149, 169, that of a is 89.
        DiagramPress press = Check.compiled(
            "!b9;!c9;!d9;!e9;!f9;!g9;!h9;!i9;!j9;a>b;a>c;a>d;a>e;a>f;a>g;a>h;a>i;a>j;");
        Check.same("x(0)", press.x(0), 44.5);
        // The line to i is in row 3 up to 104, in row 4 up to 134, in row 5 up to 149.
        // The line to j is in row 3 up to 109, in row 4 up to 149, in row 5 from 150 on.
        cells(press, 3, 102, "--------" + ".".repeat(40));
        cells(press, 4, 130, "--------------------");
        cells(press, 5, 132, "...---------------");
        cells(press, 5, 0, ".........-");
        cells(press, 6, 17, "##.##");
        cells(press, 7, 17, ":#.#:");
        cells(press, 8, 17, "##.##");
        cells(press, 7, 138, "#.#::::::::i");
        cells(press, 9, 0, ".".repeat(150));
    }

    private static void bendsBehindTheRightEnd() {
        Check.about("what lies outside is not drawn");
        // The columns of b .. i are 9, 29, .. 149, that of the bend of a, k is 161, that of k is 9.
        DiagramPress press = Check.compiled(
            "!b9;!c9;!d9;!e9;!f9;!g9;!h9;!i9;a>b;a>c;a>d;a>e;a>f;a>g;a>h;a>i;b>k;a>k;");
        Check.same("bend(0, 10, 0)", press.bend(0, 10, 0), 80.5);
        // From the bend down to k: the line is in row 9 back to 123, in row 10 to 47, and then in row 11.
        cells(press, 9, 0, ".........-" + ".".repeat(113) + "-".repeat(27));
        cells(press, 10, 0, ".........-" + ".".repeat(37) + "-".repeat(76) + ".".repeat(27));
        cells(press, 11, 0, ".........-" + "-".repeat(37) + ".".repeat(103));
    }

    private static void lastRows() {
        Check.about("in rows 6 r .. 6 r + 2");
        DiagramPress press = Check.compiled(CHAIN);
        for (int rank = 0; rank < 12; rank++) {
            cells(press, 6 * rank, 0, "#######.");
            cells(press, 6 * rank + 1, 0, "#::" + (char) ('a' + rank) + "::#.");
            cells(press, 6 * rank + 2, 0, "#######.");
            for (int row = 6 * rank + 3; row <= 6 * rank + 5; row++) {
                cells(press, row, 0, rank < 11 ? "...-...." : "........");
            }
        }
        DiagramPress bent = Check.compiled(CHAIN + "a>l;");
        for (int rank = 1; rank <= 10; rank++) {
            // Right of the node, whose box ends 3 columns behind its own one, stands the bend in its three rows.
            int column = (int) (bent.bend(0, 11, rank - 1) * 2.0 + 0.5);
            for (int row = 6 * rank; row <= 6 * rank + 2; row++) {
                cells(bent, row, column - 3, "#..-..");
            }
        }
    }

    private static void columns() {
        Check.about("The COLUMN of a place is (int) (X * 2.0 + 0.5)");
        // X is 3.75 for b: 7.5 goes up to 8. a and c have 1.5, the bend 4.5.
        DiagramPress press = Check.compiled("b>a>c;b>c3;");
        Check.same("x(1)", press.x(1), 3.75);
        cells(press, 1, 0, ".....#::b::#.");
        cells(press, 7, 0, "#::a::#..-...");
        // Twice X is 10.2, 8 + 1 / 3 and 5 + 2 / 3.
        cells(Check.compiled("a>b;a>c9;"), 1, 0, ".......#::a::#.");
        cells(Check.compiled("a>b;a>c2;"), 1, 0, ".....#::a::#.");
        cells(Check.compiled("a>b2;a>c;"), 1, 0, "...#::a::#.");
    }

    private static void lines() {
        Check.about("if f is above -h: e falls by h, x goes one towards z; if f is below d: e rises by d, y rises by 1");
        // d is 0.
        picture("a>b;", 3, "...-....", "...-....", "...-....");
        // d is 7 to the left and 1 to the right: f is -h at first.
        picture("a>b;a>c9;", 3, ".........--.", ".....----.-.", "...--......-");
        // d is 6 to the left and 2 to the right.
        picture("a>b;a>c3;", 3, "........--..", ".....---..-.", "...--......-");
        // d is 4 either way: f is d at first.
        picture("a>b;a>c;", 3, "......---...", "....--...--.", "...-.......-");
        // d is 8 to the left.
        picture("a>c;b>c;", 3, "...-.....---", "...-.----...", "...--.......");
    }

    private static void boxes() {
        Check.about("the ones in row 6 r + 1 other than the first and last become 3");
        for (int width = 1; width <= 9; width++) {
            String fill = ":".repeat(width - 1);
            String frame = "#".repeat(2 * width + 1);
            picture("!l" + width + ";", 0, frame + ".", "#" + fill + "l" + fill + "#.", frame + ".");
        }
    }

    private static void picture(String text, int top, String... rows) {
        DiagramPress press = Check.compiled(text);
        for (int row = 0; row < rows.length; row++) {
            cells(press, top + row, 0, rows[row]);
        }
    }

    /** The cells of a row from a column on: '.' is 0, '-' is 1, '#' is 2, ':' is 3, a letter is its code. */
    private static void cells(DiagramPress press, int row, int from, String due) {
        StringBuilder got = new StringBuilder();
        for (int column = from; column < from + due.length(); column++) {
            int cell = press.pixel(column, row);
            got.append(cell < 4 ? ".-#:".charAt(cell) : (char) cell);
        }
        if (!got.toString().equals(due)) {
            Check.report("row " + row + " from " + from + " on is " + got + ", due is " + due);
        }
    }
}

/** Promise 12. */
public final class PixelTest {
    public static void main(String[] args) {
        // Rows of cells: '.' is 0, '-' is 1, '#' is 2, ':' is 3, a letter is its code.
        picture("a;", "#######.", "#::a::#.", "#######.", "........");
        picture("!c1;", "###.", "#c#.", "###.", "....");
        picture("", "....", "....");
        picture("a>b;",
            "#######.", "#::a::#.", "#######.",
            "...-....", "...-....", "...-....",
            "#######.", "#::b::#.", "#######.", "........");
        // x is 3.5, 1.5 and 5.5, the columns are 7, 3 and 11.
        picture("a>b;a>c;",
            "....#######.....", "....#::a::#.....", "....#######.....",
            "......---.......", "....--...--.....", "...-.......-....",
            "#######.#######.", "#::b::#.#::c::#.", "#######.#######.", "................");
        // x is 3, 1.5, 1.5 and 4.5 for a, b, c and the bend, the columns are 6, 3, 3 and 9.
        picture("a>b>c;a>c;",
            "...#######..", "...#::a::#..", "...#######..",
            "......-.....", "....--.--...", "...-.....-..",
            "#######..-..", "#::b::#..-..", "#######..-..",
            "...-....--..", "...-.---....", "...--.......",
            "#######.....", "#::c::#.....", "#######.....", "............");
        outsideIsNotDrawn();
        twelveRanks();
        wrongNumbers();
        Check.end();
    }

    private static void picture(String text, String... rows) {
        DiagramPress press = Check.compiled(text);
        for (int row = 0; row < rows.length; row++) {
            StringBuilder got = new StringBuilder();
            for (int column = 0; column < rows[row].length(); column++) {
                int cell = press.pixel(column, row);
                got.append(cell < 4 ? ".-#:".charAt(cell) : (char) cell);
            }
            if (!got.toString().equals(rows[row])) {
                Check.report("row " + row + " of " + text + " is " + got + ", due is " + rows[row]);
            }
        }
    }

    private static void outsideIsNotDrawn() {
        // The columns are 9, 29, .. 149 for h, 169 for i.
        DiagramPress press = Check.compiled("!a9;!b9;!c9;!d9;!e9;!f9;!g9;!h9;!i9;");
        Check.same("pixel(139, 1), between g and h", press.pixel(139, 1), 0);
        Check.same("pixel(138, 1), the side of g", press.pixel(138, 1), 2);
        Check.same("pixel(140, 1), the side of h", press.pixel(140, 1), 2);
        Check.same("pixel(148, 1), inside h", press.pixel(148, 1), 3);
        Check.same("pixel(149, 1), the letter", press.pixel(149, 1), 'h');
        Check.same("pixel(149, 0), the top of h", press.pixel(149, 0), 2);
        Check.same("pixel(0, 1), the side of a", press.pixel(0, 1), 2);
        // What lies right of the last column must not come up at the left in the next row.
        Check.same("pixel(0, 3)", press.pixel(0, 3), 0);
        Check.same("pixel(19, 2), between a and b", press.pixel(19, 2), 0);
    }

    private static void twelveRanks() {
        DiagramPress press = Check.compiled("a>b>c>d>e>f>g>h>i>j>k>l;");
        for (int rank = 0; rank < 12; rank++) {
            Check.same("the letter on rank " + rank, press.pixel(3, 6 * rank + 1), 'a' + rank);
            Check.same("the line below rank " + rank, press.pixel(3, 6 * rank + 5), rank < 11 ? 1 : 0);
        }
        Check.same("pixel(149, 71)", press.pixel(149, 71), 0);
        Check.same("pixel(6, 68)", press.pixel(6, 68), 2);
    }

    private static void wrongNumbers() {
        for (DiagramPress press : new DiagramPress[] {new DiagramPress(), Check.compiled("a;")}) {
            for (int bad : new int[] {-1, 150, Integer.MIN_VALUE, Integer.MAX_VALUE}) {
                Check.thrown("pixel(" + bad + ", 0)", Check.ARGUMENT, () -> press.pixel(bad, 0));
            }
            for (int bad : new int[] {-1, 72, 149, Integer.MIN_VALUE, Integer.MAX_VALUE}) {
                Check.thrown("pixel(0, " + bad + ")", Check.ARGUMENT, () -> press.pixel(0, bad));
            }
        }
    }
}

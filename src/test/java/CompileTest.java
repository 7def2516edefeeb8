/** Promise 5. */
public final class CompileTest {
    private static final String CHAIN = "a>b>c>d>e>f>g>h>i>j>k>l;";
    // Bends: 10 + 9 + 8 + 7 + 9 + 4 + 1 = 48, and so 60 places with the twelve nodes.
    private static final String SIXTY = CHAIN + "a>l;a>k;a>j;a>i;b>l;b>g;d>f;";

    // The same upside down, so that most bends belong to edges to a.
    private static final String SIXTY_UP = "l>k>j>i>h>g>f>e>d>c>b>a;l>a;k>a;j>a;i>a;l>b;g>b;f>d;";

    public static void main(String[] args) {
        places("", 0);
        places("a;", 1);
        places("a>a;", 1);
        places("!c4;", 1);
        places("=abc;", 3);
        places("a>b>c;", 3);
        places("a>b>c;a>c;", 4);
        places(CHAIN, 12);
        places(SIXTY, 60);
        conflict(SIXTY + "e>g;");
        places(SIXTY_UP, 60);
        conflict(SIXTY_UP + "g>e;");
        conflict("a>b;=ab;");
        conflict("=ab;=bc;a>c;");
        conflict("=ad;a>b;c>d;=bce;");
        conflict("=ad;=bc;a>b;c>d;");
        places("=aa;a>b;", 2);
        places("=ab;a>a;c;", 3);
        notWhole("a");
        notWhole("a>b");
        notWhole("a>b;;");
        notWhole("a>b;=ab");
        theOldDrawingGoes();
        compilingAgain();
        Check.end();
    }

    private static void places(String text, int due) {
        DiagramPress press = Check.typed(text);
        Check.same("compile() of " + text, press.compile(), due);
        Check.same("count(0) of " + text, press.count(0), due);
        Check.same("the text's length after compile() of " + text, press.clear(), text.length());
    }

    private static void conflict(String text) {
        Check.thrown("compile() of " + text, Check.STATE, Check.typed(text)::compile);
    }

    private static void notWhole(String text) {
        Check.thrown("compile() of " + text, Check.UNSUPPORTED, Check.typed(text)::compile);
    }

    private static void theOldDrawingGoes() {
        for (String more : new String[] {"%", "=ab;"}) {
            DiagramPress press = Check.compiled("a>b;");
            Check.typeAll(press, more);
            Check.same("rank(1) before the second compile()", press.rank(1), 1);
            Check.thrown("compile() with " + more, more.equals("%") ? Check.UNSUPPORTED : Check.STATE, press::compile);
            Check.thrown("rank(1) after " + more, Check.MISSING, () -> press.rank(1));
            Check.thrown("count(0) after " + more, Check.MISSING, () -> press.count(0));
            Check.thrown("pixel(0, 0) after " + more, Check.MISSING, () -> press.pixel(0, 0));
            Check.thrown("edge(0, 1, false) after " + more, Check.MISSING, () -> press.edge(0, 1, false));
            Check.same("the text stays", press.clear(), 4 + more.length());
            press.type(Check.pack("b>a;"));
            Check.same("compile() of b>a;", press.compile(), 2);
            Check.same("rank(0) of b>a;", press.rank(0), 1);
        }
    }

    private static void compilingAgain() {
        DiagramPress press = Check.compiled("a>b>c>a;=de;!a9;");
        press.clear();
        Check.typeAll(press, "a>b;d>e;");
        Check.same("compile() of another text", press.compile(), 4);
        Check.same("rank(4), in a group no more", press.rank(4), 1);
        Check.same("edge(0, 2, false), gone", press.edge(0, 2, false), 0);
        Check.same("edge(2, 0, true), gone", press.edge(2, 0, true), 0);
        Check.same("count(6), none turned", press.count(6), 0);
        Check.same("x(0), 3 wide again", press.x(0), 1.5);
        Check.thrown("rank(2), not there any more", Check.MISSING, () -> press.rank(2));
        for (int column = 0; column < 150; column++) {
            Check.same("pixel(" + column + ", 13), drawn no more", press.pixel(column, 13), 0);
        }
        Check.same("compile() twice", press.compile(), 4);
    }
}

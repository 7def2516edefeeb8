/** The bounds of promises 1 to 4 and of the rules for a text, sentence by sentence. */
public final class TextBoundsTest {
    private static final String NODES = "abcdefghijkl";
    // 88 signs, after which two more have a place.
    private static final String FILL = "a;".repeat(44);

    public static void main(String[] args) {
        lengths();
        codes();
        zerosAreLeftOut();
        textsMaybeWithoutStatements();
        chainsOfAnyLength();
        weights();
        groups();
        widths();
        nodes();
        fullTextsThatMightGoOn();
        faultsFromTheFirstPlaceToTheLast();
        clearing();
        Check.end();
    }

    private static void lengths() {
        Check.about("at most 90 signs");
        DiagramPress press = Check.typed(FILL);
        Check.same("type of the 89th sign", press.type('a'), 89);
        Check.thrown("type of two at 89", Check.STATE, () -> press.type(Check.pack(";a")));
        Check.same("type of the 90th sign", press.type(';'), 90);
        Check.thrown("type of the 91st sign", Check.STATE, () -> press.type('a'));
        Check.same("type of nothing at 90", press.type(0L), 90);
        Check.same("the length", press.clear(), 90);
        DiagramPress eightAtOnce = Check.typed(FILL.substring(0, 82));
        Check.same("type of eight at 82", eightAtOnce.type(Check.pack("a;a;a;a;")), 90);
        DiagramPress eightTooMany = Check.typed(FILL.substring(0, 83));
        Check.thrown("type of eight at 83", Check.STATE, () -> eightTooMany.type(Check.pack("a;a;a;a;")));
        Check.same("type of seven at 83, where nothing was put", eightTooMany.type(Check.pack(";a;a;a;")), 90);
        Check.same("fault()", eightTooMany.fault(), -2);
    }

    private static void codes() {
        Check.about("codes 33 .. 126");
        for (String text : new String[] {"", "a>", FILL}) {
            for (int shift = 0; shift < 64; shift += 8) {
                for (int code : new int[] {1, 31, 32, 127, 128, 255}) {
                    DiagramPress press = Check.typed(text);
                    long signs = (long) code << shift;
                    Check.thrown("type of " + code + " behind " + text, Check.ARGUMENT, () -> press.type(signs));
                    Check.same("the length of " + text, press.clear(), text.length());
                }
                for (int code : new int[] {33, 34, 125, 126}) {
                    Check.same("type of " + code, Check.typed(text).type((long) code << shift), text.length() + 1);
                }
            }
        }
        DiagramPress full = Check.typed(FILL + "a;");
        Check.thrown("type of 32 at 90", Check.ARGUMENT, () -> full.type(32L));
        Check.thrown("type of 127 at 90", Check.ARGUMENT, () -> full.type(127L));
        Check.thrown("type of a and 32 at 90", Check.ARGUMENT, () -> full.type(Check.pack("a ")));
        Check.thrown("type of 33 at 90", Check.STATE, () -> full.type(33L));
        Check.thrown("type of 126 at 90", Check.STATE, () -> full.type(126L));
    }

    private static void zerosAreLeftOut() {
        Check.about("from the highest on, 0 left out");
        Check.same("type of zeros alone", new DiagramPress().type(0L), 0);
        for (int shift = 0; shift < 64; shift += 8) {
            DiagramPress press = Check.typed(FILL + "a");
            Check.same("type of one sign among zeros", press.type((long) ';' << shift), 90);
            Check.same("fault()", press.fault(), -2);
        }
        DiagramPress press = new DiagramPress();
        Check.same("type of eight", press.type(Check.pack("=ab;c>d9")), 8);
        Check.same("type of zeros before and behind", press.type(0x00003b0000000000L), 9);
        Check.same("fault()", press.fault(), -2);
        press.compile();
        Check.same("edge(2, 3, false)", press.edge(2, 3, false), 9);
    }

    private static void textsMaybeWithoutStatements() {
        Check.about("statements, maybe none");
        Check.same("fault() of a new object", new DiagramPress().fault(), -2);
        Check.same("compile() of a new object", new DiagramPress().compile(), 0);
        fault(";", 0);
        fault("a;;", 2);
        fault(FILL, -2);
    }

    private static void chainsOfAnyLength() {
        Check.about("a node, then any number of");
        fault("a;", -2);
        String longest = "a" + ">b>a".repeat(22) + ";";
        fault(longest, -2);
        DiagramPress press = Check.compiled(longest);
        Check.same("the length of the longest chain", press.clear(), 90);
        Check.same("edge(0, 1, false)", press.edge(0, 1, false), 9);
        Check.same("edge(1, 0, true)", press.edge(1, 0, true), 1);
    }

    private static void weights() {
        Check.about("maybe a weight, 1 .. 9");
        fault("a>b;", -2);
        fault("a>b/;", 3);
        fault("a>b0;", 3);
        for (char digit = '1'; digit <= '9'; digit++) {
            fault("a>b" + digit + ";", -2);
            fault("a>b" + digit + ">c" + digit + ";", -2);
            fault("a>b" + digit + digit + ";", 4);
            fault("a" + digit + ";", 1);
            fault("=ab" + digit + ";", 3);
            Check.same("edge(0, 1, false)", Check.compiled("a>b" + digit + ";").edge(0, 1, false), digit - '0');
        }
        fault("a>b:;", 3);
        fault("a>b10;", 4);
    }

    private static void groups() {
        Check.about("'=', a node, and one or more nodes");
        fault("=;", 1);
        fault("=a;", 2);
        fault("=ab;", -2);
        fault("=aa;", -2);
        String most = "=" + NODES.repeat(8).substring(0, 88) + ";";
        fault(most, -2);
        Check.same("compile() of the longest group", Check.typed(most).compile(), 12);
        fault("=" + "a".repeat(89), 90);
    }

    private static void widths() {
        Check.about("'!', a node, a digit 1 .. 9");
        fault("!;", 1);
        fault("!1;", 1);
        fault("!a;", 2);
        fault("!a/;", 2);
        fault("!a0;", 2);
        fault("!a1;", -2);
        fault("!a9;", -2);
        fault("!a:;", 2);
        fault("!a10;", 3);
        fault("!aa1;", 2);
    }

    private static void nodes() {
        Check.about("a letter a .. l");
        for (String before : new String[] {"", "a>", "a>b3>", "=", "=a", "!", "a;"}) {
            int place = before.length();
            for (char node : NODES.toCharArray()) {
                fault(before + node, place + 1);
            }
            for (char other : new char[] {'`', 'm', 'z', 'A', 'L'}) {
                fault(before + other, place);
            }
        }
        Check.same("rank(11) of l", Check.compiled("a>l;").rank(11), 1);
    }

    private static void fullTextsThatMightGoOn() {
        Check.about("some text by these rules (of any length) begins with the signs up to it");
        for (String last : new String[] {"a>", "=a", "!a"}) {
            fault(FILL + last, 90);
            fault(FILL + last.charAt(0), 89);
        }
        for (String last : new String[] {"aa", "==", "!!"}) {
            fault(FILL + last, 89);
        }
        String openChain = "a" + ">b".repeat(44) + "1";
        fault(openChain, 90);
        Check.thrown("compile() of a full text that is not whole", Check.UNSUPPORTED, Check.typed(openChain)::compile);
        Check.same("compile() of a full text that is whole", Check.typed(FILL + "b;").compile(), 2);
    }

    private static void faultsFromTheFirstPlaceToTheLast() {
        Check.about("The place of the first sign that can't stand");
        String text = FILL + "a;";
        for (int place = 0; place < 90; place++) {
            fault(text.substring(0, place) + "%" + text.substring(place + 1), place);
            fault(text.substring(0, place) + "%".repeat(90 - place), place);
        }
        Check.about("the text's length if all can but it is no whole one");
        for (int length = 1; length < 90; length += 2) {
            fault(text.substring(0, length), length);
        }
        Check.about("-2 if it is whole");
        for (int length = 0; length <= 90; length += 2) {
            fault(text.substring(0, length), -2);
        }
    }

    private static void clearing() {
        Check.about("The text is empty. Answers how long it was.");
        for (int length : new int[] {0, 1, 2, 89, 90}) {
            DiagramPress press = Check.typed((FILL + "%%").substring(0, length));
            Check.same("clear() at " + length, press.clear(), length);
            Check.same("clear() again", press.clear(), 0);
            Check.same("fault() after clear()", press.fault(), -2);
            Check.typeAll(press, FILL);
            Check.same("type of the last two", press.type(Check.pack("c;")), 90);
            Check.same("compile()", press.compile(), 2);
        }
    }

    private static void fault(String text, int due) {
        Check.same("fault() of " + text, Check.typed(text).fault(), due);
    }
}

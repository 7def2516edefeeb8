/** Promise 4. */
public final class FaultTest {
    public static void main(String[] args) {
        for (String whole : new String[] {"", "a;", "l;", "a>b;", "a>b1;", "a>b9>c>d3;", "a>a;", "=ab;", "=aa;",
                "=abcdefghijkl;", "!a1;", "!l9;", "a;b>c;=de;!f5;"}) {
            fault(whole, -2);
        }
        for (String begun : new String[] {"a", "a>", "a>b", "a>b1", "a>b1>", "=", "=a", "=ab", "!", "!a", "!a1",
                "a;b", "=ab;!c"}) {
            fault(begun, begun.length());
        }
        atTheStart();
        insideStatements();
        everySignAfterEachBeginning();
        Check.end();
    }

    private static void atTheStart() {
        for (String sign : new String[] {";", ">", "1", "m", "A", "`", "~", "\"", "?"}) {
            fault(sign, 0);
            fault("a>b2;" + sign + "a;", 5);
        }
    }

    private static void insideStatements() {
        fault("a1;", 1);
        fault("ab;", 1);
        fault("a=b;", 1);
        fault("a>>b;", 2);
        fault("a>;", 2);
        fault("a>m;", 2);
        fault("a>3;", 2);
        fault("a>b0;", 3);
        fault("a>b12;", 4);
        fault("a>b1c;", 4);
        fault("=;", 1);
        fault("=a;", 2);
        fault("=a1;", 2);
        fault("=ab1;", 3);
        fault("=ab>c;", 3);
        fault("=am;", 2);
        fault("!;", 1);
        fault("!5;", 1);
        fault("!a;", 2);
        fault("!a0;", 2);
        fault("!ab;", 2);
        fault("!a12;", 3);
        fault("!a1>", 3);
        fault("a;%;%", 2);
    }

    private static void everySignAfterEachBeginning() {
        String[] beginnings = {"", "a", "a>", "a>b", "a>b7", "=", "=c", "=cd", "!", "!e", "!e4"};
        String nodes = "abcdefghijkl";
        String digits = "123456789";
        String[] allowed = {nodes + "=!", ">;", nodes, digits + ">;", ">;", nodes, nodes, nodes + ";", nodes, digits, ";"};
        for (int i = 0; i < beginnings.length; i++) {
            for (char sign = 33; sign <= 126; sign++) {
                boolean stands = allowed[i].indexOf(sign) >= 0;
                boolean ends = stands && (sign == ';');
                int length = beginnings[i].length();
                fault(beginnings[i] + sign, ends ? -2 : stands ? length + 1 : length);
            }
        }
    }

    private static void fault(String text, int due) {
        DiagramPress press = Check.typed(text);
        Check.same("fault() of " + text, press.fault(), due);
        Check.same("fault() changed the length of " + text, press.clear(), text.length());
    }
}

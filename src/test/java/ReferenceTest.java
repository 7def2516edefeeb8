import java.util.List;
import java.util.Random;

/** All promises: many texts, the same ones in every run, on used objects, against ReferencePress. */
public final class ReferenceTest {
    private static final Random DICE = new Random(20261116);

    private static int whole;
    private static int conflicts;
    private static int reduced;
    private static int wide;

    public static void main(String[] args) {
        DiagramPress press = new DiagramPress();
        for (int i = 0; i < 6000; i++) {
            // A few texts on each object show whether old ones leave traces. That takes more than the 512 calls
            // which are promised, but this program answers later ones no other way.
            press = i % 5 == 0 ? new DiagramPress() : press;
            press.clear();
            compare(press, text());
        }
        System.out.println(whole + " whole, " + conflicts + " conflicts, " + reduced + " reduced, " + wide + " wide");
        enough("whole texts", whole, 3000);
        enough("conflicts", conflicts, 200);
        enough("texts with crossings reduced", reduced, 500);
        enough("texts wider than the canvas", wide, 100);
        Check.end();
    }

    private static void enough(String what, int got, int due) {
        if (got < due) {
            Check.report("only " + got + " " + what + ", the test should see " + due);
        }
    }

    private static String text() {
        StringBuilder text = new StringBuilder();
        boolean broad = DICE.nextInt(4) == 0;
        int nodes = broad ? 12 : 1 + DICE.nextInt(12);
        int length = broad ? 90 : DICE.nextInt(91);
        int groups = DICE.nextInt(4) == 0 ? 3 : DICE.nextInt(2);
        boolean forward = DICE.nextBoolean();
        for (int tries = 0; tries < 60; tries++) {
            String statement = statement(nodes, groups, broad, forward);
            if (text.length() + statement.length() <= length) {
                text.append(statement);
            }
        }
        if (DICE.nextInt(5) == 0 && text.length() > 0) {
            text.setCharAt(DICE.nextInt(text.length()), ";>=!ab059m".charAt(DICE.nextInt(10)));
        }
        return text.toString();
    }

    private static String statement(int nodes, int groups, boolean broad, boolean forward) {
        StringBuilder statement = new StringBuilder();
        int kind = DICE.nextInt(16);
        if (kind < groups) {
            statement.append('=').append(node(nodes));
            do {
                statement.append(node(nodes));
            } while (DICE.nextInt(4) == 0);
        } else if (kind < (broad ? 11 : 4)) {
            statement.append('!').append(node(nodes)).append(broad ? 9 : 1 + DICE.nextInt(9));
        } else {
            char last = node(nodes);
            statement.append(last);
            for (int steps = DICE.nextInt(broad ? 2 : 5); steps > 0; steps--) {
                char next = node(nodes);
                if (forward && next < last) {
                    next = (char) (last + DICE.nextInt('a' + nodes - last));
                }
                statement.append('>').append(next);
                if (DICE.nextInt(3) == 0) {
                    statement.append(1 + DICE.nextInt(9));
                }
                last = next;
            }
        }
        return statement.append(';').toString();
    }

    private static char node(int nodes) {
        return (char) ('a' + DICE.nextInt(nodes));
    }

    private static void compare(DiagramPress press, String text) {
        ReferencePress due = new ReferencePress(text);
        Check.typeAll(press, text);
        Check.same("fault() of " + text, press.fault(), due.fault);
        if (due.fault != -2 || due.conflict) {
            conflicts += due.conflict ? 1 : 0;
            Check.thrown("compile() of " + text, due.fault != -2 ? Check.UNSUPPORTED : Check.STATE, press::compile);
            Check.thrown("count(0) after " + text, Check.MISSING, () -> press.count(0));
            return;
        }
        whole++;
        reduced += due.leastCrossings < due.firstCrossings ? 1 : 0;
        wide += due.places.stream().anyMatch(place -> place.column() > 149) ? 1 : 0;
        Check.same("compile() of " + text, press.compile(), due.places.size());
        compareNodes(press, due, text);
        compareEdges(press, due, text);
        compareCounts(press, due, text);
        for (int row = 0; row < 72; row++) {
            for (int column = 0; column < 150; column++) {
                if (press.pixel(column, row) != due.cells[row][column]) {
                    Check.same("pixel(" + column + ", " + row + ") of " + text, press.pixel(column, row),
                        due.cells[row][column]);
                }
            }
        }
    }

    private static void compareNodes(DiagramPress press, ReferencePress due, String text) {
        for (int i = 0; i < 12; i++) {
            int node = i;
            ReferencePress.Place place = due.nodes.get((char) ('a' + i));
            if (place == null) {
                Check.thrown("rank(" + i + ") of " + text, Check.MISSING, () -> press.rank(node));
                Check.thrown("position(" + i + ") of " + text, Check.MISSING, () -> press.position(node));
                Check.thrownByDouble("x(" + i + ") of " + text, Check.MISSING, () -> press.x(node));
            } else {
                Check.same("rank(" + i + ") of " + text, press.rank(i), place.rank);
                Check.same("position(" + i + ") of " + text, press.position(i), place.position);
                Check.same("x(" + i + ") of " + text, press.x(i), place.x);
            }
        }
    }

    private static void compareEdges(DiagramPress press, ReferencePress due, String text) {
        for (int i = 0; i < 144; i++) {
            int u = i / 12;
            int v = i % 12;
            String pair = "" + (char) ('a' + u) + (char) ('a' + v);
            String call = u + ", " + v + " of " + text;
            Check.same("weight " + call, press.edge(u, v, false), due.weights.getOrDefault(pair, 0));
            Check.same("turned " + call, press.edge(u, v, true), due.turned.contains(pair) ? 1 : 0);
            List<ReferencePress.Place> bends = due.bends.getOrDefault(pair, List.of());
            for (int k = 0; k < bends.size(); k++) {
                Check.same("bend " + k + " of " + call, press.bend(u, v, k), bends.get(k).x);
                Check.same("position of bend " + k + " of " + call, press.bendPosition(u, v, k), bends.get(k).position);
            }
            Check.thrownByDouble("a bend too many of " + call, Check.MISSING, () -> press.bend(u, v, bends.size()));
            Check.thrown("a bend too many of " + call, Check.MISSING, () -> press.bendPosition(u, v, bends.size()));
        }
    }

    private static void compareCounts(DiagramPress press, ReferencePress due, String text) {
        int[] counts = {due.places.size(), due.rankCount, due.firstCrossings, due.leastCrossings, due.nodes.size(),
            due.segments.size(), due.turned.size()};
        for (int what = 0; what < 19; what++) {
            int count = what < 7 ? counts[what] : due.placesOn(what - 7);
            Check.same("count(" + what + ") of " + text, press.count(what), count);
        }
    }
}

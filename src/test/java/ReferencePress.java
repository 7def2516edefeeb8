import java.util.ArrayList;
import java.util.Comparator;
import java.util.HashMap;
import java.util.List;
import java.util.Map;
import java.util.TreeMap;
import java.util.TreeSet;
import java.util.regex.Matcher;
import java.util.regex.Pattern;

/** The document once more, written plainly with the whole Java library, to compare the program with. */
final class ReferencePress {
    static final class Place {
        final int rank;
        final int width;
        final int letter;
        int position;
        double x;

        Place(int rank, int width, int letter) {
            this.rank = rank;
            this.width = width;
            this.letter = letter;
        }

        int column() {
            return (int) (x * 2.0 + 0.5);
        }
    }

    record Segment(Place upper, Place lower, int weight) { }

    private static final Pattern WHOLE = Pattern.compile("([a-l](>[a-l][1-9]?)*;|=[a-l][a-l]+;|![a-l][1-9];)*");
    private static final String[] ENDS = {"", ";", "a;", "aa;", "1;", "a1;"};

    final int fault;
    final Map<String, Integer> weights = new TreeMap<>();
    final TreeSet<String> turned = new TreeSet<>();
    final TreeSet<Character> there = new TreeSet<>();
    final Map<Character, Integer> widths = new HashMap<>();
    final Map<Character, Integer> ranks = new HashMap<>();
    final Map<Character, Place> nodes = new TreeMap<>();
    final Map<String, List<Place>> bends = new TreeMap<>();
    final List<Place> places = new ArrayList<>();
    final List<Segment> segments = new ArrayList<>();
    final int[][] cells = new int[72][150];
    boolean conflict;
    int rankCount;
    int firstCrossings;
    int leastCrossings;
    private final List<TreeSet<Character>> groups = new ArrayList<>();
    private final boolean[][] below = new boolean[12][12];
    private List<List<Place>> order = new ArrayList<>();

    ReferencePress(String text) {
        fault = faultOf(text);
        if (fault != -2) {
            return;
        }
        read(text);
        breakCycles();
        findRanks();
        if (!conflict) {
            makePlaces();
        }
        if (!conflict) {
            findOrder();
            findX();
            draw();
        }
    }

    private static int faultOf(String text) {
        for (int i = 1; i <= text.length(); i++) {
            boolean stands = false;
            for (String end : ENDS) {
                stands |= WHOLE.matcher(text.substring(0, i) + end).matches();
            }
            if (!stands) {
                return i - 1;
            }
        }
        return WHOLE.matcher(text).matches() ? -2 : text.length();
    }

    private void read(String text) {
        for (char sign : text.toCharArray()) {
            if (Character.isLetter(sign)) {
                there.add(sign);
            }
        }
        for (String statement : text.split(";")) {
            if (statement.startsWith("!")) {
                widths.put(statement.charAt(1), statement.charAt(2) - '0');
            } else if (statement.startsWith("=")) {
                TreeSet<Character> group = new TreeSet<>();
                statement.substring(1).chars().forEach(sign -> group.add((char) sign));
                groups.add(group);
            } else {
                Matcher step = Pattern.compile("(?=([a-l])[1-9]?>([a-l])([1-9]?))").matcher(statement);
                while (step.find()) {
                    String pair = step.group(1) + step.group(2);
                    int weight = step.group(3).isEmpty() ? 1 : Integer.parseInt(step.group(3));
                    if (pair.charAt(0) != pair.charAt(1)) {
                        weights.merge(pair, weight, Integer::sum);
                    }
                }
            }
        }
        weights.replaceAll((pair, weight) -> Math.min(9, weight));
    }

    private void breakCycles() {
        TreeSet<Character> seen = new TreeSet<>();
        for (char node : there) {
            if (!seen.contains(node)) {
                walk("" + node, seen);
            }
        }
        for (String pair : turned) {
            String other = "" + pair.charAt(1) + pair.charAt(0);
            weights.put(other, Math.min(9, weights.getOrDefault(other, 0) + weights.remove(pair)));
        }
    }

    /** The open nodes are those of the path, the last one is come to. */
    private void walk(String path, TreeSet<Character> seen) {
        char u = path.charAt(path.length() - 1);
        seen.add(u);
        for (char v : there) {
            if (weights.containsKey("" + u + v)) {
                if (path.indexOf(v) >= 0) {
                    turned.add("" + u + v);
                } else if (!seen.contains(v)) {
                    walk(path + v, seen);
                }
            }
        }
    }

    private void findRanks() {
        boolean[][] together = new boolean[12][12];
        for (TreeSet<Character> group : groups) {
            for (char u : group) {
                for (char v : group) {
                    together[u - 'a'][v - 'a'] = true;
                }
            }
        }
        for (int node = 0; node < 12; node++) {
            together[node][node] = true;
        }
        close(together);
        for (String pair : weights.keySet()) {
            for (int u = 0; u < 12; u++) {
                for (int v = 0; v < 12; v++) {
                    below[u][v] |= together[u][pair.charAt(0) - 'a'] && together[pair.charAt(1) - 'a'][v];
                }
            }
        }
        boolean[][] reached = new boolean[12][];
        for (int u = 0; u < 12; u++) {
            reached[u] = below[u].clone();
        }
        close(reached);
        for (int node = 0; node < 12; node++) {
            conflict |= reached[node][node];
        }
        if (!conflict) {
            for (char node : there) {
                ranks.put(node, longestTo(node - 'a'));
                rankCount = Math.max(rankCount, ranks.get(node) + 1);
            }
        }
    }

    private static void close(boolean[][] relation) {
        for (int k = 0; k < 12; k++) {
            for (int u = 0; u < 12; u++) {
                for (int v = 0; v < 12; v++) {
                    relation[u][v] |= relation[u][k] && relation[k][v];
                }
            }
        }
    }

    private int longestTo(int v) {
        int longest = 0;
        for (int u = 0; u < 12; u++) {
            if (below[u][v]) {
                longest = Math.max(longest, longestTo(u) + 1);
            }
        }
        return longest;
    }

    private void makePlaces() {
        for (char node : there) {
            Place place = new Place(ranks.get(node), widths.getOrDefault(node, 3), node);
            nodes.put(node, place);
            places.add(place);
        }
        for (String pair : weights.keySet()) {
            List<Place> way = new ArrayList<>();
            Place last = nodes.get(pair.charAt(0));
            for (int rank = last.rank + 1; rank < ranks.get(pair.charAt(1)); rank++) {
                Place bend = new Place(rank, 1, 0);
                way.add(bend);
                segments.add(new Segment(last, bend, weights.get(pair)));
                last = bend;
            }
            segments.add(new Segment(last, nodes.get(pair.charAt(1)), weights.get(pair)));
            bends.put(pair, way);
            places.addAll(way);
        }
        conflict = places.size() > 60;
    }

    private void findOrder() {
        for (int rank = 0; rank < rankCount; rank++) {
            List<Place> row = new ArrayList<>();
            for (Place place : places) {
                if (place.rank == rank) {
                    row.add(place);
                }
            }
            order.add(row);
        }
        number();
        firstCrossings = crossings();
        leastCrossings = firstCrossings;
        List<List<Place>> best = copyOfOrder();
        for (int sweep = 1; sweep <= 6; sweep++) {
            boolean down = sweep % 2 == 1;
            for (int rank : way(down)) {
                Map<Place, Double> means = new HashMap<>();
                for (Place place : order.get(rank)) {
                    means.put(place, mean(place, down));
                }
                order.get(rank).sort(Comparator.comparing(means::get));
                number();
            }
            if (crossings() < leastCrossings) {
                leastCrossings = crossings();
                best = copyOfOrder();
            }
        }
        order = best;
        number();
    }

    private List<Integer> way(boolean down) {
        List<Integer> way = new ArrayList<>();
        if (down) {
            for (int rank = 1; rank <= rankCount - 1; rank++) {
                way.add(rank);
            }
        } else {
            for (int rank = rankCount - 2; rank >= 0; rank--) {
                way.add(rank);
            }
        }
        return way;
    }

    private List<List<Place>> copyOfOrder() {
        List<List<Place>> copy = new ArrayList<>();
        order.forEach(row -> copy.add(new ArrayList<>(row)));
        return copy;
    }

    private void number() {
        for (List<Place> row : order) {
            for (int i = 0; i < row.size(); i++) {
                row.get(i).position = i;
            }
        }
    }

    private int crossings() {
        int sum = 0;
        for (Segment s : segments) {
            for (Segment t : segments) {
                if (s.upper.rank == t.upper.rank && s.upper.position < t.upper.position
                        && s.lower.position > t.lower.position) {
                    sum += s.weight * t.weight;
                }
            }
        }
        return sum;
    }

    private double mean(Place place, boolean down) {
        double sum = 0;
        double weight = 0;
        for (Segment s : segments) {
            if ((down ? s.lower : s.upper) == place) {
                sum += s.weight * (down ? s.upper : s.lower).position;
                weight += s.weight;
            }
        }
        return weight == 0 ? place.position : sum / weight;
    }

    private void findX() {
        for (List<Place> row : order) {
            for (int i = 0; i < row.size(); i++) {
                row.get(i).x = i == 0 ? 0.0 : least(row.get(i - 1), row.get(i));
            }
        }
        for (int pass = 1; pass <= 4; pass++) {
            boolean down = pass % 2 == 1;
            for (int rank : way(down)) {
                List<Place> row = order.get(rank);
                for (int i = 0; i < row.size(); i++) {
                    double wish = wish(row.get(i), down);
                    row.get(i).x = i == 0 ? wish : Math.max(wish, least(row.get(i - 1), row.get(i)));
                }
            }
        }
        double left = Double.POSITIVE_INFINITY;
        for (Place place : places) {
            left = Math.min(left, place.x - place.width * 0.5);
        }
        for (Place place : places) {
            place.x = place.x - left;
        }
    }

    private static double least(Place before, Place place) {
        double x = before.x;
        x += 0.5 * (before.width + place.width);
        x += 1.0;
        return x;
    }

    private double wish(Place place, boolean down) {
        double sum = 0;
        double weight = 0;
        for (Segment s : segments) {
            if ((down ? s.lower : s.upper) == place) {
                sum += s.weight * (down ? s.upper : s.lower).x;
                weight += s.weight;
            }
        }
        return weight == 0 ? place.x : sum / weight;
    }

    private void draw() {
        for (Segment s : segments) {
            line(s.upper.column(), 6 * s.upper.rank + 3, s.lower.column(), 6 * s.upper.rank + 5);
        }
        for (Place place : places) {
            for (int row = 6 * place.rank; row <= 6 * place.rank + 2; row++) {
                int reach = place.letter == 0 ? 0 : place.width;
                for (int column = place.column() - reach; column <= place.column() + reach; column++) {
                    set(column, row, place.letter == 0 ? 1 : 2);
                }
            }
        }
        for (Place place : nodes.values()) {
            for (int column = place.column() - place.width + 1; column < place.column() + place.width; column++) {
                set(column, 6 * place.rank + 1, column == place.column() ? place.letter : 3);
            }
        }
    }

    private void line(int x, int y, int z, int w) {
        int d = Math.abs(x - z);
        int h = Math.abs(y - w);
        int e = d - h;
        while (true) {
            set(x, y, 1);
            if (x == z && y == w) {
                return;
            }
            int f = 2 * e;
            if (f > -h) {
                e -= h;
                x += Integer.signum(z - x);
            }
            if (f < d) {
                e += d;
                y += 1;
            }
        }
    }

    private void set(int column, int row, int value) {
        if (column >= 0 && column < 150 && row >= 0 && row < 72) {
            cells[row][column] = value;
        }
    }

    int placesOn(int rank) {
        return rank < order.size() ? order.get(rank).size() : 0;
    }
}

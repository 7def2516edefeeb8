import java.util.Arrays;
import java.util.NoSuchElementException;

/** Draws small directed graphs from a text, as the document ../shared/DOC.md promises. */
public final class DiagramPress {
    private static final int NODES = 12;
    private static final int PAIRS = NODES * NODES;
    private static final int MOST_SIGNS = 90;
    private static final int MOST_WEIGHT = 9;
    private static final int MOST_PLACES = 60;
    // Without cycles at most half of the pairs of different nodes are edges, and each bend adds one segment more.
    private static final int MOST_SEGMENTS = NODES * (NODES - 1) / 2 + MOST_PLACES;
    private static final int NODE_WIDTH = 3;
    private static final int BEND_WIDTH = 1;
    private static final int SWEEPS = 6;
    private static final int PASSES = 4;
    private static final int COLUMNS = 150;
    private static final int ROWS = 72;
    private static final int ROWS_OF_RANK = 6;
    private static final int WHOLE = -2;
    private static final int NONE = -1;
    private static final int FIRST_RANK_COUNT = 7;

    private final Script script;
    private final Graph graph;
    private final Net net;
    private final Order order;
    private final Spread spread;
    private final Canvas canvas;
    private boolean drawn;

    public DiagramPress() {
        script = new Script();
        graph = new Graph();
        net = new Net();
        order = new Order();
        spread = new Spread();
        canvas = new Canvas();
    }

    public int type(long signs) throws IllegalStateException, IllegalArgumentException {
        int added = 0;
        for (int shift = 56; shift >= 0; shift -= 8) {
            int sign = signAt(signs, shift);
            if (sign != 0) {
                if (sign < 33 || sign > 126) {
                    throw new IllegalArgumentException("a sign is none of 33 .. 126");
                }
                added++;
            }
        }
        if (script.length + added > MOST_SIGNS) {
            throw new IllegalStateException("the text would be too long");
        }
        for (int shift = 56; shift >= 0; shift -= 8) {
            int sign = signAt(signs, shift);
            if (sign != 0) {
                script.append(sign);
            }
        }
        return script.length;
    }

    public int clear() {
        int before = script.length;
        script.length = 0;
        return before;
    }

    public int fault() {
        return script.firstFault();
    }

    public int compile() throws IllegalStateException, UnsupportedOperationException {
        drawn = false;
        if (script.firstFault() != WHOLE) {
            throw new UnsupportedOperationException("the text is not whole");
        }
        graph.read(script);
        graph.breakCycles();
        if (!graph.findRanks()) {
            throw new IllegalStateException("there are no such ranks");
        }
        if (!net.build(graph)) {
            throw new IllegalStateException("there are too many places");
        }
        order.reduceCrossings(net);
        spread.settle(net, order);
        canvas.draw(net, spread);
        drawn = true;
        return net.places;
    }

    public int rank(int node) throws IllegalArgumentException, NoSuchElementException {
        return net.ranks[placeOfNode(node)];
    }

    public int position(int node) throws IllegalArgumentException, NoSuchElementException {
        return order.positions[placeOfNode(node)];
    }

    public double x(int node) throws IllegalArgumentException, NoSuchElementException {
        return spread.xs[placeOfNode(node)];
    }

    public int edge(int u, int v, boolean turned) throws IllegalArgumentException, NoSuchElementException {
        checkNode(u);
        checkNode(v);
        checkDrawn();
        int pair = u * NODES + v;
        return turned ? graph.turned[pair] : graph.weights[pair];
    }

    public double bend(int u, int v, int k) throws IllegalArgumentException, NoSuchElementException {
        return spread.xs[placeOfBend(u, v, k)];
    }

    public int bendPosition(int u, int v, int k) throws IllegalArgumentException, NoSuchElementException {
        return order.positions[placeOfBend(u, v, k)];
    }

    public int pixel(int column, int row) throws IllegalArgumentException, NoSuchElementException {
        if (!Canvas.holds(column, row)) {
            throw new IllegalArgumentException("no cell of the canvas");
        }
        checkDrawn();
        return canvas.cells[row * COLUMNS + column];
    }

    public int count(int what) throws IllegalArgumentException, NoSuchElementException {
        if (what < 0 || what >= FIRST_RANK_COUNT + NODES) {
            throw new IllegalArgumentException("nothing that is counted");
        }
        checkDrawn();
        switch (what) {
            case 0:
                return net.places;
            case 1:
                return net.rankCount;
            case 2:
                return order.firstCrossings;
            case 3:
                return order.leastCrossings;
            case 4:
                return net.nodes;
            case 5:
                return net.segments;
            case 6:
                return graph.turnedCount;
            default:
                return order.sizeOf(what - FIRST_RANK_COUNT);
        }
    }

    private static int signAt(long signs, int shift) {
        return (int) (signs >>> shift) & 255;
    }

    private static void checkNode(int node) {
        if (node < 0 || node >= NODES) {
            throw new IllegalArgumentException("no node");
        }
    }

    private void checkDrawn() {
        if (!drawn) {
            throw new NoSuchElementException("there is no drawing");
        }
    }

    private int placeOfNode(int node) {
        checkNode(node);
        checkDrawn();
        int place = net.placeOf[node];
        if (place == NONE) {
            throw new NoSuchElementException("the node is not there");
        }
        return place;
    }

    private int placeOfBend(int u, int v, int k) {
        checkNode(u);
        checkNode(v);
        if (k < 0) {
            throw new IllegalArgumentException("a bend below 0");
        }
        checkDrawn();
        int pair = u * NODES + v;
        if (k >= net.bendCounts[pair]) {
            throw new NoSuchElementException("there is no such bend");
        }
        return net.firstBends[pair] + k;
    }

    /** The text, and what may stand where in it. The states name what was read last. */
    private static final class Script {
        static final int STATEMENT_END = 0;
        static final int CHAIN_HEAD = 1;
        static final int ARROW = 2;
        static final int CHAIN_NEXT = 3;
        static final int WEIGHT = 4;
        static final int GROUP_SIGN = 5;
        static final int GROUP_HEAD = 6;
        static final int GROUP_NEXT = 7;
        static final int WIDTH_SIGN = 8;
        static final int WIDTH_NODE = 9;
        static final int WIDTH_DIGIT = 10;

        final int[] signs = new int[MOST_SIGNS];
        int length;

        void append(int sign) {
            if (length < MOST_SIGNS) {
                signs[length] = sign;
                length++;
            }
        }

        int firstFault() {
            int state = STATEMENT_END;
            for (int i = 0; i < length; i++) {
                state = next(state, signs[i]);
                if (state == NONE) {
                    return i;
                }
            }
            return state == STATEMENT_END ? WHOLE : length;
        }

        /** The weight that stands at a place behind a chain's node, 1 if there is none. */
        int weightAt(int place) {
            return place < length && isDigit(signs[place]) ? signs[place] - '0' : 1;
        }

        static boolean isNode(int sign) {
            return sign >= 'a' && sign < 'a' + NODES;
        }

        static boolean isDigit(int sign) {
            return sign >= '1' && sign <= '9';
        }

        /** The state after a sign, NONE if it can't stand there. */
        static int next(int state, int sign) {
            switch (state) {
                case STATEMENT_END:
                    return statementStart(sign);
                case CHAIN_HEAD:
                case WEIGHT:
                    return sign == '>' ? ARROW : statementEnd(sign);
                case ARROW:
                    return isNode(sign) ? CHAIN_NEXT : NONE;
                case CHAIN_NEXT:
                    return isDigit(sign) ? WEIGHT : sign == '>' ? ARROW : statementEnd(sign);
                case GROUP_SIGN:
                    return isNode(sign) ? GROUP_HEAD : NONE;
                case GROUP_HEAD:
                    return isNode(sign) ? GROUP_NEXT : NONE;
                case GROUP_NEXT:
                    return isNode(sign) ? GROUP_NEXT : statementEnd(sign);
                case WIDTH_SIGN:
                    return isNode(sign) ? WIDTH_NODE : NONE;
                case WIDTH_NODE:
                    return isDigit(sign) ? WIDTH_DIGIT : NONE;
                case WIDTH_DIGIT:
                    return statementEnd(sign);
                default:
                    return NONE;
            }
        }

        private static int statementStart(int sign) {
            if (sign == '=') {
                return GROUP_SIGN;
            }
            if (sign == '!') {
                return WIDTH_SIGN;
            }
            return isNode(sign) ? CHAIN_HEAD : NONE;
        }

        private static int statementEnd(int sign) {
            return sign == ';' ? STATEMENT_END : NONE;
        }
    }

    /** The nodes and edges that a whole text tells, without cycles in the end, and the nodes' ranks. */
    private static final class Graph {
        static final int UNSEEN = 0;
        static final int OPEN = 1;
        static final int CLOSED = 2;

        final int[] there = new int[NODES];
        final int[] widths = new int[NODES];
        // Nodes that must have one rank bear the same team number.
        final int[] teams = new int[NODES];
        final int[] ranks = new int[NODES];
        final int[] visits = new int[NODES];
        final int[] weights = new int[PAIRS];
        final int[] turned = new int[PAIRS];
        int turnedCount;

        void read(Script script) {
            forget();
            int state = Script.STATEMENT_END;
            int before = 0;
            for (int i = 0; i < script.length; i++) {
                int sign = script.signs[i];
                state = Script.next(state, sign);
                if (Script.isNode(sign)) {
                    int node = sign - 'a';
                    there[node] = 1;
                    if (state == Script.CHAIN_NEXT) {
                        addEdge(before, node, script.weightAt(i + 1));
                    } else if (state == Script.GROUP_NEXT) {
                        joinTeams(before, node);
                    }
                    before = node;
                } else if (state == Script.WIDTH_DIGIT) {
                    widths[before] = sign - '0';
                }
            }
        }

        private void forget() {
            Arrays.fill(there, 0);
            Arrays.fill(widths, NODE_WIDTH);
            Arrays.fill(weights, 0);
            Arrays.fill(turned, 0);
            turnedCount = 0;
            for (int node = 0; node < NODES; node++) {
                teams[node] = node;
            }
        }

        private void addEdge(int u, int v, int weight) {
            if (u != v) {
                addWeight(u * NODES + v, weight);
            }
        }

        private void addWeight(int pair, int weight) {
            weights[pair] = Math.min(MOST_WEIGHT, weights[pair] + weight);
        }

        private void joinTeams(int u, int v) {
            int left = teams[v];
            for (int node = 0; node < NODES; node++) {
                if (teams[node] == left) {
                    teams[node] = teams[u];
                }
            }
        }

        void breakCycles() {
            Arrays.fill(visits, UNSEEN);
            for (int node = 0; node < NODES; node++) {
                if (visits[node] == UNSEEN) {
                    comeTo(node, 1);
                }
            }
            for (int u = 0; u < NODES; u++) {
                for (int v = 0; v < NODES; v++) {
                    if (turned[u * NODES + v] == 1) {
                        turn(u, v);
                    }
                }
            }
        }

        // Every level opens another node, so that the depth never passes the number of nodes.
        private void comeTo(int u, int depth) {
            if (depth > NODES) {
                return;
            }
            visits[u] = OPEN;
            for (int v = 0; v < NODES; v++) {
                int pair = u * NODES + v;
                if (weights[pair] > 0) {
                    if (visits[v] == OPEN) {
                        turned[pair] = 1;
                    } else if (visits[v] == UNSEEN) {
                        comeTo(v, depth + 1);
                    }
                }
            }
            visits[u] = CLOSED;
        }

        private void turn(int u, int v) {
            addWeight(v * NODES + u, weights[u * NODES + v]);
            weights[u * NODES + v] = 0;
            turnedCount++;
        }

        /** Answers whether there are such ranks. */
        boolean findRanks() {
            Arrays.fill(ranks, 0);
            // Each round settles one rank more, and there are no more ranks than nodes.
            for (int round = 0; round <= NODES; round++) {
                if (!raiseRanks()) {
                    return true;
                }
            }
            return false;
        }

        private boolean raiseRanks() {
            boolean raised = false;
            for (int u = 0; u < NODES; u++) {
                for (int v = 0; v < NODES; v++) {
                    if (weights[u * NODES + v] > 0 && ranks[v] <= ranks[u]) {
                        raiseTeam(teams[v], ranks[u] + 1);
                        raised = true;
                    }
                }
            }
            return raised;
        }

        private void raiseTeam(int team, int level) {
            for (int node = 0; node < NODES; node++) {
                if (teams[node] == team) {
                    ranks[node] = level;
                }
            }
        }

        /** How many bends an edge needs. */
        int bendsOf(int u, int v) {
            return weights[u * NODES + v] > 0 ? ranks[v] - ranks[u] - 1 : 0;
        }
    }

    /** Places, the nodes' ones first, and the segments between them. */
    private static final class Net {
        final int[] placeOf = new int[NODES];
        final int[] letters = new int[NODES];
        final int[] firstBends = new int[PAIRS];
        final int[] bendCounts = new int[PAIRS];
        final int[] ranks = new int[MOST_PLACES];
        final int[] widths = new int[MOST_PLACES];
        final int[] uppers = new int[MOST_SEGMENTS];
        final int[] lowers = new int[MOST_SEGMENTS];
        final int[] weights = new int[MOST_SEGMENTS];
        int places;
        int nodes;
        int segments;
        int rankCount;

        /** Answers whether all places could be made. */
        boolean build(Graph graph) {
            if (placesOf(graph) > MOST_PLACES) {
                return false;
            }
            places = 0;
            segments = 0;
            rankCount = 0;
            addNodes(graph);
            for (int u = 0; u < NODES; u++) {
                for (int v = 0; v < NODES; v++) {
                    addBends(graph, u, v);
                }
            }
            return true;
        }

        private static int placesOf(Graph graph) {
            int all = 0;
            for (int u = 0; u < NODES; u++) {
                all += graph.there[u];
                for (int v = 0; v < NODES; v++) {
                    all += graph.bendsOf(u, v);
                }
            }
            return all;
        }

        private void addNodes(Graph graph) {
            for (int node = 0; node < NODES; node++) {
                placeOf[node] = NONE;
                if (graph.there[node] == 1) {
                    placeOf[node] = places;
                    letters[places] = 'a' + node;
                    addPlace(graph.ranks[node], graph.widths[node]);
                }
            }
            nodes = places;
        }

        private void addBends(Graph graph, int u, int v) {
            int pair = u * NODES + v;
            int bends = graph.bendsOf(u, v);
            firstBends[pair] = places;
            bendCounts[pair] = bends;
            if (graph.weights[pair] == 0) {
                return;
            }
            int upper = placeOf[u];
            for (int k = 0; k < bends; k++) {
                addSegment(upper, places, graph.weights[pair]);
                upper = places;
                addPlace(graph.ranks[u] + 1 + k, BEND_WIDTH);
            }
            addSegment(upper, placeOf[v], graph.weights[pair]);
        }

        private void addPlace(int level, int width) {
            ranks[places] = level;
            widths[places] = width;
            rankCount = Math.max(rankCount, level + 1);
            places++;
        }

        private void addSegment(int upper, int lower, int weight) {
            uppers[segments] = upper;
            lowers[segments] = lower;
            weights[segments] = weight;
            segments++;
        }

        /** The other end of a segment that reaches a place from where a sweep comes, NONE if it does not. */
        int farEnd(int segment, int place, boolean down) {
            if (down) {
                return lowers[segment] == place ? uppers[segment] : NONE;
            }
            return uppers[segment] == place ? lowers[segment] : NONE;
        }

        /** The rank that a sweep or a pass looks at in its step 1, 2, .. below the number of ranks. */
        int rankInStep(int step, boolean down) {
            return down ? step : rankCount - 1 - step;
        }
    }

    /** The places of each rank from left to right: those of rank r stand in row from starts[r] on. */
    private static final class Order {
        final int[] starts = new int[NODES + 1];
        final int[] row = new int[MOST_PLACES];
        final int[] keptRow = new int[MOST_PLACES];
        final int[] positions = new int[MOST_PLACES];
        final double[] means = new double[MOST_PLACES];
        int firstCrossings;
        int leastCrossings;

        void reduceCrossings(Net net) {
            lineUp(net);
            firstCrossings = crossings(net);
            leastCrossings = firstCrossings;
            System.arraycopy(row, 0, keptRow, 0, MOST_PLACES);
            for (int sweep = 0; sweep < SWEEPS; sweep++) {
                sweepRanks(net, sweep % 2 == 0);
                int now = crossings(net);
                if (now < leastCrossings) {
                    leastCrossings = now;
                    System.arraycopy(row, 0, keptRow, 0, MOST_PLACES);
                }
            }
            System.arraycopy(keptRow, 0, row, 0, MOST_PLACES);
            for (int level = 0; level < NODES; level++) {
                numberRank(level);
            }
        }

        int sizeOf(int level) {
            return starts[level + 1] - starts[level];
        }

        private void lineUp(Net net) {
            int filled = 0;
            for (int level = 0; level < NODES; level++) {
                starts[level] = filled;
                for (int place = 0; place < net.places; place++) {
                    if (net.ranks[place] == level) {
                        row[filled] = place;
                        filled++;
                    }
                }
                starts[level + 1] = filled;
                numberRank(level);
            }
        }

        private void numberRank(int level) {
            for (int i = starts[level]; i < starts[level + 1]; i++) {
                positions[row[i]] = i - starts[level];
            }
        }

        private int crossings(Net net) {
            int sum = 0;
            for (int s = 0; s < net.segments; s++) {
                for (int t = s + 1; t < net.segments; t++) {
                    if (net.ranks[net.uppers[s]] == net.ranks[net.uppers[t]] && cross(net, s, t)) {
                        sum += net.weights[s] * net.weights[t];
                    }
                }
            }
            return sum;
        }

        private boolean cross(Net net, int s, int t) {
            int above = positions[net.uppers[s]] - positions[net.uppers[t]];
            int below = positions[net.lowers[s]] - positions[net.lowers[t]];
            return above < 0 && below > 0 || above > 0 && below < 0;
        }

        private void sweepRanks(Net net, boolean down) {
            for (int step = 1; step < net.rankCount; step++) {
                int level = net.rankInStep(step, down);
                for (int i = starts[level]; i < starts[level + 1]; i++) {
                    means[row[i]] = meanOf(net, row[i], down);
                }
                sortByMeans(level);
                numberRank(level);
            }
        }

        private double meanOf(Net net, int place, boolean down) {
            int sum = 0;
            int weight = 0;
            for (int s = 0; s < net.segments; s++) {
                int end = net.farEnd(s, place, down);
                if (end != NONE) {
                    sum += net.weights[s] * positions[end];
                    weight += net.weights[s];
                }
            }
            return weight > 0 ? (double) sum / weight : positions[place];
        }

        // By insertion, since places with the same mean must stay in the order before.
        private void sortByMeans(int level) {
            for (int i = starts[level] + 1; i < starts[level + 1]; i++) {
                int place = row[i];
                int gap = i;
                while (gap > starts[level] && means[row[gap - 1]] > means[place]) {
                    row[gap] = row[gap - 1];
                    gap--;
                }
                row[gap] = place;
            }
        }
    }

    /** The x of each place. */
    private static final class Spread {
        final double[] xs = new double[MOST_PLACES];

        void settle(Net net, Order order) {
            pack(net, order);
            for (int pass = 0; pass < PASSES; pass++) {
                passRanks(net, order, pass % 2 == 0);
            }
            shiftToLeft(net);
        }

        private void pack(Net net, Order order) {
            for (int level = 0; level < net.rankCount; level++) {
                for (int i = order.starts[level]; i < order.starts[level + 1]; i++) {
                    int place = order.row[i];
                    xs[place] = i == order.starts[level] ? 0.0 : leastBehind(net, order.row[i - 1], place);
                }
            }
        }

        private double leastBehind(Net net, int before, int place) {
            return xs[before] + (net.widths[before] + net.widths[place]) / 2.0 + 1.0;
        }

        private void passRanks(Net net, Order order, boolean down) {
            for (int step = 1; step < net.rankCount; step++) {
                int level = net.rankInStep(step, down);
                for (int i = order.starts[level]; i < order.starts[level + 1]; i++) {
                    int place = order.row[i];
                    double goal = wishOf(net, place, down);
                    if (i > order.starts[level]) {
                        double least = leastBehind(net, order.row[i - 1], place);
                        goal = goal >= least ? goal : least;
                    }
                    xs[place] = goal;
                }
            }
        }

        private double wishOf(Net net, int place, boolean down) {
            double sum = 0.0;
            int weight = 0;
            for (int s = 0; s < net.segments; s++) {
                int end = net.farEnd(s, place, down);
                if (end != NONE) {
                    sum += net.weights[s] * xs[end];
                    weight += net.weights[s];
                }
            }
            return weight > 0 ? sum / weight : xs[place];
        }

        private void shiftToLeft(Net net) {
            if (net.places == 0) {
                return;
            }
            double least = leftSide(net, 0);
            for (int place = 1; place < net.places; place++) {
                double side = leftSide(net, place);
                least = side < least ? side : least;
            }
            for (int place = 0; place < net.places; place++) {
                xs[place] -= least;
            }
        }

        private double leftSide(Net net, int place) {
            return xs[place] - net.widths[place] / 2.0;
        }

        int columnOf(int place) {
            return (int) (xs[place] * 2.0 + 0.5);
        }
    }

    /** The cells, row by row. */
    private static final class Canvas {
        static final int EMPTY = 0;
        static final int LINE = 1;
        static final int FRAME = 2;
        static final int FILL = 3;

        final byte[] cells = new byte[COLUMNS * ROWS];

        static boolean holds(int column, int row) {
            return column >= 0 && column < COLUMNS && row >= 0 && row < ROWS;
        }

        void draw(Net net, Spread spread) {
            Arrays.fill(cells, (byte) EMPTY);
            for (int s = 0; s < net.segments; s++) {
                int top = net.ranks[net.uppers[s]] * ROWS_OF_RANK;
                drawLine(spread.columnOf(net.uppers[s]), top + 3, spread.columnOf(net.lowers[s]), top + 5);
            }
            for (int place = net.nodes; place < net.places; place++) {
                drawBend(spread.columnOf(place), net.ranks[place] * ROWS_OF_RANK);
            }
            for (int place = 0; place < net.nodes; place++) {
                int column = spread.columnOf(place);
                int top = net.ranks[place] * ROWS_OF_RANK;
                drawBox(column, top, net.widths[place]);
                paint(column, top + 1, net.letters[place]);
            }
        }

        private void paint(int column, int row, int value) {
            if (holds(column, row)) {
                cells[row * COLUMNS + column] = (byte) value;
            }
        }

        private void drawLine(int fromColumn, int fromRow, int toColumn, int toRow) {
            int wide = Math.abs(toColumn - fromColumn);
            int high = toRow - fromRow;
            int way = toColumn < fromColumn ? -1 : 1;
            int column = fromColumn;
            int row = fromRow;
            int error = wide - high;
            // Every step goes on by a column or a row at least.
            for (int step = 0; step <= wide + high; step++) {
                paint(column, row, LINE);
                if (column == toColumn && row == toRow) {
                    break;
                }
                int twice = 2 * error;
                if (twice > -high) {
                    error -= high;
                    column += way;
                }
                if (twice < wide) {
                    error += wide;
                    row++;
                }
            }
        }

        private void drawBend(int column, int top) {
            for (int row = top; row < top + 3; row++) {
                paint(column, row, LINE);
            }
        }

        private void drawBox(int middle, int top, int width) {
            for (int column = middle - width; column <= middle + width; column++) {
                boolean side = column == middle - width || column == middle + width;
                paint(column, top, FRAME);
                paint(column, top + 1, side ? FRAME : FILL);
                paint(column, top + 2, FRAME);
            }
        }
    }
}

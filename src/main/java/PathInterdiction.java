import java.util.Arrays;

/**
 * A workbench for the interdiction of shortest paths: an attacker delays or blocks edges of a
 * directed graph within a budget, and a traveler then takes a shortest path.
 */
public final class PathInterdiction {
    public static final int BAD = -2, STATE = -3, FULL = -4;
    public static final int NONE = -1;
    public static final int UNREACHABLE = 9999;
    public static final int BLOCK = 100;

    private static final int NODES = 8;
    private static final int MOST_EDGES = 16;
    private static final int MOST_STATES = 12;
    private static final int MOST_LETTERS = 110;
    private static final int MOST_RANKS = 100;
    private static final int MOST_BUDGET = 5;
    private static final int MOST_GREEDY_BUDGET = 20;
    private static final int MOST_REPAIRS = 3;
    private static final int MOST_FORT_BUDGET = 3;
    private static final int MOST_FORTS = 2;
    private static final int MOST_CHANCES = 6;
    private static final int TWELFTHS = 12;
    private static final int COUNTS = 7;

    /** The properties of an edge, as edge() numbers them. */
    private static final int FROM = 0, TO = 1, LENGTH = 2, DELAY = 3, COST = 4, ATTACKED = 5;

    // All objects are made here, once: no later call makes another one.
    private final Graph graph = new Graph();
    private final History history = new History();
    private final Text text = new Text();
    private final Router router = new Router(graph);
    private final Walker walker = new Walker(graph);
    private final AttackSearch search = new AttackSearch(graph, router);
    private final GreedyAttack greedyAttack = new GreedyAttack(graph, router);
    private final Fortifier fortifier = new Fortifier(graph, search);
    private int found = NONE;

    public PathInterdiction() {
    }

    // ---- graph

    public int addEdge(int from, int to, int length, int delay, int cost) {
        if (!areNodes(from, to) || from == to) {
            return BAD;
        }
        if (!Graph.isValue(LENGTH, length) || !Graph.isValue(DELAY, delay) || !Graph.isValue(COST, cost)) {
            return BAD;
        }
        if (graph.size >= MOST_EDGES) {
            return FULL;
        }
        history.keep(graph);
        graph.append(Graph.pack(from, to, length, delay, cost));
        return graph.size - 1;
    }

    public int removeEdge(int edge) {
        if (!graph.has(edge)) {
            return BAD;
        }
        history.keep(graph);
        graph.delete(edge);
        return graph.size;
    }

    public int setEdge(int edge, int what, int value) {
        if (!graph.has(edge) || !Graph.isValue(what, value)) {
            return BAD;
        }
        history.keep(graph);
        int old = graph.part(edge, what);
        graph.setPart(edge, what, value);
        return old;
    }

    public int edge(int edge, int what) {
        if (!graph.has(edge) || what < FROM || what > ATTACKED) {
            return BAD;
        }
        return what == ATTACKED ? graph.attacked >> edge & 1 : graph.part(edge, what);
    }

    public int clear() {
        history.keep(graph);
        int size = graph.size;
        graph.empty();
        return size;
    }

    public int type(int letter) {
        if (letter < 0 || letter > 127) {
            return BAD;
        }
        return text.append(letter) ? text.size : FULL;
    }

    public int clearText() {
        int size = text.size;
        text.size = 0;
        return size;
    }

    public int fault() {
        return text.scan();
    }

    public int load() {
        if (text.scan() != NONE) {
            return STATE;
        }
        history.keep(graph);
        graph.empty();
        for (int e = 0; e < text.edges; e++) {
            graph.append(text.codeOf(e));
        }
        text.size = 0;
        return graph.size;
    }

    // ---- the present attack, paths

    public int attack(int edge, boolean on) {
        if (!graph.has(edge)) {
            return BAD;
        }
        boolean already = (graph.attacked >> edge & 1) != 0;
        if (already == on) {
            return STATE;
        }
        history.keep(graph);
        graph.attacked ^= 1 << edge;
        return graph.costOfSet(graph.attacked);
    }

    public int setAttack(int edges) {
        if (!graph.hasAll(edges)) {
            return BAD;
        }
        history.keep(graph);
        graph.attacked = edges;
        return graph.costOfSet(edges);
    }

    public int distance(int from, int to) {
        if (!areNodes(from, to)) {
            return BAD;
        }
        return router.measure(from, to, graph.attacked, 0);
    }

    public int first(int from, int to, int i) {
        if (!areNodes(from, to) || i < NONE) {
            return BAD;
        }
        int least = router.measure(from, to, graph.attacked, 0);
        if (least == UNREACHABLE || !walker.findFirst(from, to, least)) {
            return NONE;
        }
        return i == NONE ? walker.trailSize : walker.trailEdge(i);
    }

    public int paths(int from, int to, int most) {
        if (!areNodes(from, to) || most < 0) {
            return BAD;
        }
        return walker.countUpTo(from, to, most);
    }

    public int pathLength(int from, int to, int k) {
        if (!areNodes(from, to) || k < 0 || k >= MOST_RANKS) {
            return BAD;
        }
        return walker.rankedLength(from, to, k);
    }

    public int tight(int from, int to) {
        if (!areNodes(from, to)) {
            return BAD;
        }
        return from == to ? 0 : router.tightEdges(from, to, graph.attacked);
    }

    // ---- attacks; all that follow leave the present attack as it is, and regard only what they are given

    public int interdict(int from, int to, int budget) {
        return interdictResponse(from, to, budget, 0);
    }

    public int greedy(int from, int to, int budget) {
        if (!areNodes(from, to) || !isWithin(budget, MOST_GREEDY_BUDGET)) {
            return BAD;
        }
        int reached = greedyAttack.seek(from, to, budget);
        found = greedyAttack.chosen;
        return reached;
    }

    public int budgetFor(int from, int to, int aim) {
        if (!areNodes(from, to) || !isWithin(aim, UNREACHABLE)) {
            return BAD;
        }
        search.seekBest(from, to, MOST_BUDGET, 0, aim, 0);
        if (search.reached < aim) {
            return NONE;
        }
        found = search.chosen;
        return search.price;
    }

    public int blockade(int from, int to) {
        if (!areNodes(from, to)) {
            return BAD;
        }
        int cheapest = NONE;
        // A cheapest blockade consists of the edges that leave the set of the nodes that stay reachable.
        for (int side = 0; side < 1 << NODES; side++) {
            if ((side >> from & 1) != 0 && (side >> to & 1) == 0) {
                int cost = graph.costOfBorder(side);
                if (cost != NONE && (cheapest == NONE || cost < cheapest)) {
                    cheapest = cost;
                }
            }
        }
        return cheapest;
    }

    public int respond(int from, int to, int edges, int repairs) {
        if (!areNodes(from, to) || !graph.hasAll(edges) || !isWithin(repairs, MOST_REPAIRS)) {
            return BAD;
        }
        return router.measure(from, to, edges, repairs);
    }

    public int interdictResponse(int from, int to, int budget, int repairs) {
        if (!areNodes(from, to) || !isWithin(budget, MOST_BUDGET) || !isWithin(repairs, MOST_REPAIRS)) {
            return BAD;
        }
        search.seekBest(from, to, budget, repairs, UNREACHABLE, 0);
        found = search.chosen;
        return search.reached;
    }

    public int fortify(int from, int to, int budget, int most) {
        if (!areNodes(from, to) || !isWithin(budget, MOST_FORT_BUDGET) || !isWithin(most, MOST_FORTS)) {
            return BAD;
        }
        int reached = fortifier.seek(from, to, budget, most);
        found = fortifier.chosen;
        return reached;
    }

    public int finding() {
        return found;
    }

    public int worth(int from, int to, int edge) {
        if (!areNodes(from, to) || !graph.has(edge)) {
            return BAD;
        }
        int with = graph.attacked | 1 << edge;
        int without = graph.attacked & ~(1 << edge);
        return router.measure(from, to, with, 0) - router.measure(from, to, without, 0);
    }

    public int neverHelps(int from, int to, int budget) {
        if (!areNodes(from, to) || !isWithin(budget, MOST_BUDGET)) {
            return BAD;
        }
        search.seekHelpful(from, to, budget);
        return graph.all() & ~search.helpful;
    }

    public long expected(int from, int to, int edges, int q) {
        if (!isChance(from, to, edges, q)) {
            return BAD;
        }
        return sumOfSubsets(from, to, edges, q, false);
    }

    public long lost(int from, int to, int edges, int q) {
        if (!isChance(from, to, edges, q)) {
            return BAD;
        }
        return sumOfSubsets(from, to, edges, q, true);
    }

    // ---- undo, counts, digest

    public int undo() {
        return history.bringBack(graph) ? history.held : STATE;
    }

    public int count(int what) {
        switch (what) {
            case 0:
                return graph.size;
            case 1:
                return Integer.bitCount(graph.attacked);
            case 2:
                return graph.costOfSet(graph.attacked);
            case 3:
                return history.held;
            case 4:
                return text.size;
            case 5:
                return graph.sumOfLengths();
            case 6:
                return router.reachablePairs(graph.attacked);
            default:
                return BAD;
        }
    }

    public long digest() {
        long h = 61;
        for (int what = 0; what < COUNTS; what++) {
            h = 31 * h + count(what);
        }
        for (int e = 0; e < graph.size; e++) {
            for (int what = FROM; what <= ATTACKED; what++) {
                h = 31 * h + edge(e, what);
            }
        }
        for (int s = 0; s < NODES; s++) {
            router.run(s, graph.attacked, 0);
            for (int t = 0; t < NODES; t++) {
                h = 31 * h + router.distanceTo(t);
            }
        }
        h = 31 * h + found;
        for (int i = 0; i < text.size; i++) {
            h = 31 * h + text.letterAt(i);
        }
        return h;
    }

    // ---- what arguments must be

    private static boolean areNodes(int from, int to) {
        return isWithin(from, NODES - 1) && isWithin(to, NODES - 1);
    }

    private static boolean isWithin(int value, int most) {
        return value >= 0 && value <= most;
    }

    private boolean isChance(int from, int to, int edges, int q) {
        return areNodes(from, to) && graph.hasAll(edges)
            && Integer.bitCount(edges) <= MOST_CHANCES && isWithin(q, TWELFTHS);
    }

    // ---- attacks that succeed by chance

    /** The sum of the weights of the subsets that cut t off, or of weight times distance for the others. */
    private long sumOfSubsets(int from, int to, int edges, int q, boolean cutOff) {
        int size = Integer.bitCount(edges);
        long sum = 0;
        int subset = edges;
        for (int i = 0; i < 1 << size; i++) {
            int distance = router.measure(from, to, subset, 0);
            if (cutOff == (distance == UNREACHABLE)) {
                int hits = Integer.bitCount(subset);
                long weight = power(q, hits) * power(TWELFTHS - q, size - hits);
                sum += cutOff ? weight : weight * distance;
            }
            subset = (subset - 1) & edges;
        }
        return sum;
    }

    private static long power(long base, int exponent) {
        long result = 1;
        for (int i = 0; i < exponent; i++) {
            result *= base;
        }
        return result;
    }

    /** The edges and the present attack. */
    private static final class Graph {
        /** How many ints a copy of a graph takes. */
        static final int ROW = MOST_EDGES + 2;

        // An edge is packed into one int, so that a state is a short row that is copied whole, and a node
        // taken out of it is in range whatever the int is.
        static final int TO_AT = 3, LENGTH_AT = 6, DELAY_AT = 13, COST_AT = 20;
        static final int NODE_BITS = 7, NUMBER_BITS = 127, COST_BITS = 15;
        private static final int[] SHIFTS = {0, 3, 6, 13, 20};
        private static final int[] MASKS = {7, 7, 127, 127, 15};

        final int[] codes = new int[MOST_EDGES];
        int size = 0;
        int attacked = 0;

        static int pack(int from, int to, int length, int delay, int cost) {
            return from | to << TO_AT | length << LENGTH_AT | delay << DELAY_AT | cost << COST_AT;
        }

        /** Whether a property can be set to a value; its nodes can't be set. */
        static boolean isValue(int what, int value) {
            switch (what) {
                case LENGTH:
                    return value >= 0 && value <= 99;
                case DELAY:
                    return value >= 1 && value <= BLOCK;
                case COST:
                    return value >= 1 && value <= 9;
                default:
                    return false;
            }
        }

        boolean has(int e) {
            return e >= 0 && e < size;
        }

        int all() {
            return (1 << size) - 1;
        }

        boolean hasAll(int set) {
            return (set & ~all()) == 0;
        }

        int part(int e, int what) {
            if (!has(e) || what < FROM || what > COST) {
                return 0;
            }
            return codes[e] >> SHIFTS[what] & MASKS[what];
        }

        void setPart(int e, int what, int value) {
            if (has(e) && isValue(what, value)) {
                codes[e] = codes[e] & ~(MASKS[what] << SHIFTS[what]) | value << SHIFTS[what];
            }
        }

        int from(int e) {
            return has(e) ? codes[e] & NODE_BITS : 0;
        }

        int to(int e) {
            return has(e) ? codes[e] >> TO_AT & NODE_BITS : 0;
        }

        int cost(int e) {
            return has(e) ? codes[e] >> COST_AT & COST_BITS : 0;
        }

        int plainLength(int e) {
            return has(e) ? codes[e] >> LENGTH_AT & NUMBER_BITS : 0;
        }

        /** The lengths under an attack; UNREACHABLE for an edge that can't be used. */
        void fillLengths(int set, int[] lengths) {
            for (int e = 0; e < size && e < lengths.length; e++) {
                int code = codes[e];
                int delay = (set >> e & 1) != 0 ? code >> DELAY_AT & NUMBER_BITS : 0;
                lengths[e] = delay == BLOCK ? UNREACHABLE : (code >> LENGTH_AT & NUMBER_BITS) + delay;
            }
        }

        void append(int code) {
            if (size < MOST_EDGES) {
                codes[size] = code;
                size++;
            }
        }

        void delete(int e) {
            if (!has(e)) {
                return;
            }
            for (int i = e; i + 1 < size; i++) {
                codes[i] = codes[i + 1];
            }
            size--;
            int below = attacked & ((1 << e) - 1);
            attacked = below | attacked >> (e + 1) << e;
        }

        void empty() {
            size = 0;
            attacked = 0;
        }

        int costOfSet(int set) {
            int sum = 0;
            for (int e = 0; e < size; e++) {
                if ((set >> e & 1) != 0) {
                    sum += cost(e);
                }
            }
            return sum;
        }

        int sumOfLengths() {
            int sum = 0;
            for (int e = 0; e < size; e++) {
                sum += plainLength(e);
            }
            return sum;
        }

        /** What it costs to block all edges that leave a set of nodes; NONE if one can't be blocked. */
        int costOfBorder(int side) {
            int sum = 0;
            for (int e = 0; e < size; e++) {
                if ((side >> from(e) & 1) != 0 && (side >> to(e) & 1) == 0) {
                    if (part(e, DELAY) != BLOCK) {
                        return NONE;
                    }
                    sum += cost(e);
                }
            }
            return sum;
        }

        void copyTo(int[] rows, int start) {
            if (start >= 0 && start <= rows.length - ROW) {
                System.arraycopy(codes, 0, rows, start, MOST_EDGES);
                rows[start + MOST_EDGES] = size;
                rows[start + MOST_EDGES + 1] = attacked;
            }
        }

        void copyFrom(int[] rows, int start) {
            if (start >= 0 && start <= rows.length - ROW) {
                System.arraycopy(rows, start, codes, 0, MOST_EDGES);
                size = rows[start + MOST_EDGES];
                attacked = rows[start + MOST_EDGES + 1];
            }
        }
    }

    /** The latest states, in a ring: the place of the oldest one is taken by the one too many. */
    private static final class History {
        private final int[] rows = new int[MOST_STATES * Graph.ROW];
        private int oldest = 0;
        int held = 0;

        void keep(Graph graph) {
            if (held == MOST_STATES) {
                oldest = (oldest + 1) % MOST_STATES;
                held--;
            }
            graph.copyTo(rows, (oldest + held) % MOST_STATES * Graph.ROW);
            held++;
        }

        boolean bringBack(Graph graph) {
            if (held == 0) {
                return false;
            }
            held--;
            graph.copyFrom(rows, (oldest + held) % MOST_STATES * Graph.ROW);
            return true;
        }
    }

    /** The text, and what was read of it by the latest scan. */
    private static final class Text {
        private final byte[] letters = new byte[MOST_LETTERS];
        private final int[] codes = new int[MOST_EDGES];
        int size = 0;
        int edges = 0;
        private int at = 0;

        boolean append(int letter) {
            if (size >= MOST_LETTERS) {
                return false;
            }
            letters[size] = (byte) letter;
            size++;
            return true;
        }

        int letterAt(int i) {
            return i >= 0 && i < size && i < MOST_LETTERS ? letters[i] : NONE;
        }

        int codeOf(int e) {
            return e >= 0 && e < edges ? codes[e] : 0;
        }

        /** Reads all edges; the answer is the fault. Each reader stops with 'at' on what it can't take. */
        int scan() {
            at = 0;
            edges = 0;
            skipBlanks();
            for (int round = 0; round <= MOST_EDGES && at < size; round++) {
                if (!readEdge()) {
                    return at;
                }
                skipBlanks();
            }
            return NONE;
        }

        private boolean readEdge() {
            int from = edges < MOST_EDGES ? readNode() : NONE;
            if (from == NONE) {
                return false;
            }
            int to = readOtherNode(from);
            if (to == NONE) {
                return false;
            }
            int length = readNumber();
            if (length == NONE || !readSign('+')) {
                return false;
            }
            int delay = readDelay();
            if (delay == NONE || !readSign(':')) {
                return false;
            }
            int cost = readCost();
            if (cost == NONE) {
                return false;
            }
            codes[edges] = Graph.pack(from, to, length, delay, cost);
            edges++;
            return true;
        }

        private int readNode() {
            skipBlanks();
            int letter = letterAt(at);
            if (letter < 'a' || letter > 'h') {
                return NONE;
            }
            at++;
            return letter - 'a';
        }

        private int readOtherNode(int node) {
            int other = readNode();
            if (other == node) {
                at--;
                return NONE;
            }
            return other;
        }

        private int readNumber() {
            skipBlanks();
            int number = digitAt(at);
            if (number == NONE) {
                return NONE;
            }
            at++;
            int second = digitAt(at);
            if (second == NONE) {
                return number;
            }
            at++;
            return 10 * number + second;
        }

        private int readDelay() {
            if (readSign('x')) {
                return BLOCK;
            }
            int delay = readNumber();
            if (delay == 0) {
                at--;
                return NONE;
            }
            return delay;
        }

        private int readCost() {
            skipBlanks();
            int cost = digitAt(at);
            if (cost < 1) {
                return NONE;
            }
            at++;
            return cost;
        }

        private boolean readSign(char sign) {
            skipBlanks();
            if (letterAt(at) != sign) {
                return false;
            }
            at++;
            return true;
        }

        private void skipBlanks() {
            while (at < size && letterAt(at) == ' ') {
                at++;
            }
        }

        private int digitAt(int i) {
            int letter = letterAt(i);
            return letter >= '0' && letter <= '9' ? letter - '0' : NONE;
        }
    }

    /** Distances from one node, each with the edges of a path that has this length. */
    private static final class Router {
        private final Graph graph;
        private final int[] lengths = new int[MOST_EDGES];
        private final int[] distances = new int[NODES];
        private final int[] used = new int[NODES];
        // What was reached with one repair less.
        private final int[] distancesBefore = new int[NODES];
        private final int[] usedBefore = new int[NODES];
        private final int[] onward = new int[NODES];

        Router(Graph graph) {
            this.graph = graph;
        }

        int measure(int source, int target, int set, int repairs) {
            run(source, set, repairs);
            return distanceTo(target);
        }

        int distanceTo(int node) {
            return node >= 0 && node < NODES ? distances[node] : UNREACHABLE;
        }

        /** The edges of a path of the least length; none if there is no path. */
        int usedTo(int node) {
            return node >= 0 && node < NODES ? used[node] : 0;
        }

        void run(int source, int set, int repairs) {
            Arrays.fill(distances, UNREACHABLE);
            Arrays.fill(used, 0);
            if (source < 0 || source >= NODES) {
                return;
            }
            distances[source] = 0;
            graph.fillLengths(set, lengths);
            settle();
            for (int i = 0; i < repairs && set != 0; i++) {
                repairOnce(set);
                settle();
            }
        }

        private void settle() {
            boolean better = true;
            for (int round = 0; round < NODES && better; round++) {
                better = false;
                for (int e = 0; e < graph.size; e++) {
                    int code = graph.codes[e];
                    int u = code & Graph.NODE_BITS;
                    int v = code >> Graph.TO_AT & Graph.NODE_BITS;
                    int sum = distances[u] + lengths[e];
                    // From an unreachable node, or by an edge that can't be used, the sum is too great.
                    if (sum < distances[v]) {
                        distances[v] = sum;
                        used[v] = used[u] | 1 << e;
                        better = true;
                    }
                }
            }
        }

        /** Lets each attacked edge be used once more as if it were not attacked. */
        private void repairOnce(int set) {
            for (int node = 0; node < NODES; node++) {
                distancesBefore[node] = distances[node];
                usedBefore[node] = used[node];
            }
            for (int e = 0; e < graph.size; e++) {
                int code = graph.codes[e];
                int u = code & Graph.NODE_BITS;
                int v = code >> Graph.TO_AT & Graph.NODE_BITS;
                int sum = distancesBefore[u] + (code >> Graph.LENGTH_AT & Graph.NUMBER_BITS);
                if ((set >> e & 1) != 0 && sum < distances[v]) {
                    distances[v] = sum;
                    used[v] = usedBefore[u] | 1 << e;
                }
            }
        }

        int tightEdges(int source, int target, int set) {
            for (int node = 0; node < NODES; node++) {
                onward[node] = measure(node, target, set, 0);
            }
            int least = measure(source, target, set, 0);
            if (least == UNREACHABLE) {
                return 0;
            }
            int result = 0;
            for (int e = 0; e < graph.size; e++) {
                if (distances[graph.from(e)] + lengths[e] + onward[graph.to(e)] == least) {
                    result |= 1 << e;
                }
            }
            return result;
        }

        int reachablePairs(int set) {
            int pairs = 0;
            for (int s = 0; s < NODES; s++) {
                run(s, set, 0);
                for (int t = 0; t < NODES; t++) {
                    if (s != t && distances[t] != UNREACHABLE) {
                        pairs++;
                    }
                }
            }
            return pairs;
        }
    }

    /** Goes through the simple paths under the present attack, in the order of their sequences of edges. */
    private static final class Walker {
        private final Graph graph;
        private final int[] lengths = new int[MOST_EDGES];
        private final int[] trail = new int[NODES];
        int trailSize = 0;
        // The least lengths so far, in ascending order.
        private final int[] least = new int[MOST_RANKS];
        private int leastSize = 0;
        private int leastWanted = 0;
        private int target = 0;
        private int limit = 0;
        private int arrivals = 0;
        private boolean onlyFirst = false;

        Walker(Graph graph) {
            this.graph = graph;
        }

        boolean findFirst(int source, int target, int length) {
            onlyFirst = true;
            return begin(source, target, length, 0) > 0;
        }

        int trailEdge(int i) {
            return i >= 0 && i < trailSize && i < NODES ? trail[i] : NONE;
        }

        int countUpTo(int source, int target, int most) {
            onlyFirst = false;
            return begin(source, target, most, 0);
        }

        int rankedLength(int source, int target, int k) {
            if (k < 0 || k >= MOST_RANKS) {
                return NONE;
            }
            onlyFirst = false;
            begin(source, target, UNREACHABLE, k + 1);
            return k < leastSize ? least[k] : NONE;
        }

        private int begin(int source, int target, int limit, int leastWanted) {
            this.target = target;
            // No path is so long, but an edge that can't be used is: so it never fits.
            this.limit = Math.min(limit, UNREACHABLE - 1);
            this.leastWanted = leastWanted;
            leastSize = 0;
            arrivals = 0;
            trailSize = 0;
            graph.fillLengths(graph.attacked, lengths);
            walk(source, 1 << source, 0, 0);
            return arrivals;
        }

        /** Whether the walk is over. */
        private boolean walk(int node, int seen, int length, int depth) {
            if (node == target) {
                return arrive(length, depth);
            }
            if (depth >= NODES) {
                return false;
            }
            for (int e = 0; e < graph.size; e++) {
                int next = graph.to(e);
                if (graph.from(e) == node && (seen >> next & 1) == 0 && lengths[e] <= limit - length) {
                    trail[depth] = e;
                    if (walk(next, seen | 1 << next, length + lengths[e], depth + 1)) {
                        return true;
                    }
                }
            }
            return false;
        }

        private boolean arrive(int length, int depth) {
            arrivals++;
            trailSize = depth;
            if (leastWanted > 0) {
                rank(length);
            }
            return onlyFirst;
        }

        private void rank(int length) {
            int place = Math.min(leastSize, leastWanted - 1);
            if (leastSize == leastWanted && least[place] <= length) {
                return;
            }
            while (place > 0 && least[place - 1] > length) {
                least[place] = least[place - 1];
                place--;
            }
            least[place] = length;
            if (leastSize < leastWanted) {
                leastSize++;
            }
        }
    }

    /**
     * Goes through attacks. If a set brings about a greater distance than a part of it does, one of its
     * further edges is on every shortest path under the part. So it is enough to add edges of one such
     * path, and no set is missed that has no smaller one within it with the same distance.
     */
    private static final class AttackSearch {
        private final Graph graph;
        private final Router router;
        private int source = 0;
        private int target = 0;
        private int budget = 0;
        private int repairs = 0;
        private int aim = 0;
        private boolean marking = false;
        // The best attack so far: its distance, but at most the aim; its cost; its edges.
        int reached = 0;
        int price = 0;
        int chosen = 0;
        /** The edges that help in one of the attacks so far, if they are marked. */
        int helpful = 0;

        AttackSearch(Graph graph, Router router) {
            this.graph = graph;
            this.router = router;
        }

        /** Finds the attack with the greatest distance up to an aim, the cheapest one, the least number. */
        void seekBest(int source, int target, int budget, int repairs, int aim, int shut) {
            this.source = source;
            this.target = target;
            this.budget = budget;
            this.repairs = repairs;
            this.aim = aim;
            marking = false;
            reached = NONE;
            grow(0, 0, shut, 0);
        }

        /** Marks the edges that help an attacker. */
        void seekHelpful(int source, int target, int budget) {
            this.source = source;
            this.target = target;
            this.budget = budget;
            repairs = 0;
            aim = UNREACHABLE;
            marking = true;
            helpful = 0;
            grow(0, 0, 0, 0);
        }

        private void grow(int set, int cost, int shut, int depth) {
            router.run(source, set, repairs);
            int distance = router.distanceTo(target);
            int open = router.usedTo(target) & ~set & ~shut;
            if (marking) {
                markHelpful(set, distance);
            } else {
                weigh(set, cost, distance);
            }
            if (distance >= aim || depth >= MOST_EDGES) {
                return;
            }
            int closed = shut;
            for (int e = 0; e < graph.size; e++) {
                if ((open >> e & 1) != 0) {
                    int sum = cost + graph.cost(e);
                    if (sum <= budget) {
                        grow(set | 1 << e, sum, closed, depth + 1);
                    }
                    // The sets with this edge have been seen now.
                    closed |= 1 << e;
                }
            }
        }

        private void weigh(int set, int cost, int distance) {
            // More than the aim is worth no more than the aim.
            int value = Math.min(distance, aim);
            if (value > reached || value == reached && isCheaper(set, cost)) {
                reached = value;
                price = cost;
                chosen = set;
            }
        }

        private boolean isCheaper(int set, int cost) {
            return cost < price || cost == price && set < chosen;
        }

        // An edge that helps within any set helps within one that has no smaller one within it with the
        // same distance, and these are all seen.
        private void markHelpful(int set, int distance) {
            int unknown = set & ~helpful;
            for (int e = 0; e < graph.size; e++) {
                int bit = 1 << e;
                if ((unknown & bit) != 0) {
                    router.run(source, set & ~bit, 0);
                    if (router.distanceTo(target) < distance) {
                        helpful |= bit;
                    }
                }
            }
        }
    }

    /** Finds an attack step by step. */
    private static final class GreedyAttack {
        private final Graph graph;
        private final Router router;
        int chosen = 0;

        GreedyAttack(Graph graph, Router router) {
            this.graph = graph;
            this.router = router;
        }

        int seek(int source, int target, int budget) {
            chosen = 0;
            int left = budget;
            int reached = router.measure(source, target, 0, 0);
            for (int step = 0; step < MOST_EDGES; step++) {
                int best = NONE;
                int bestDistance = reached;
                for (int e = 0; e < graph.size; e++) {
                    if ((chosen >> e & 1) == 0 && graph.cost(e) <= left) {
                        int distance = router.measure(source, target, chosen | 1 << e, 0);
                        if (distance > bestDistance
                            || best != NONE && distance == bestDistance && graph.cost(e) < graph.cost(best)) {
                            best = e;
                            bestDistance = distance;
                        }
                    }
                }
                if (best == NONE) {
                    break;
                }
                chosen |= 1 << best;
                left -= graph.cost(best);
                reached = bestDistance;
            }
            return reached;
        }
    }

    /**
     * Finds edges to fortify. Only fortified edges of the attacker's best attack can make it weaker, so it
     * is enough to add edges of that attack, one after the other.
     */
    private static final class Fortifier {
        private final Graph graph;
        private final AttackSearch search;
        private int source = 0;
        private int target = 0;
        private int budget = 0;
        private int most = 0;
        private int reached = 0;
        int chosen = 0;

        Fortifier(Graph graph, AttackSearch search) {
            this.graph = graph;
            this.search = search;
        }

        int seek(int source, int target, int budget, int most) {
            this.source = source;
            this.target = target;
            this.budget = budget;
            this.most = most;
            chosen = NONE;
            hold(0, 0);
            return reached;
        }

        private void hold(int forts, int size) {
            search.seekBest(source, target, budget, 0, UNREACHABLE, forts);
            int threat = search.chosen;
            if (chosen == NONE || isBetter(forts, size, search.reached)) {
                chosen = forts;
                reached = search.reached;
            }
            if (size >= most || size >= MOST_FORTS) {
                return;
            }
            for (int e = 0; e < graph.size; e++) {
                if ((threat >> e & 1) != 0) {
                    hold(forts | 1 << e, size + 1);
                }
            }
        }

        private boolean isBetter(int forts, int size, int distance) {
            if (distance != reached) {
                return distance < reached;
            }
            int fewest = Integer.bitCount(chosen);
            return size < fewest || size == fewest && forts < chosen;
        }
    }
}

import java.util.ArrayDeque;
import java.util.ArrayList;
import java.util.Arrays;
import java.util.Deque;
import java.util.HashMap;
import java.util.List;
import java.util.Map;

/**
 * The document told once more, in the most literal way: all sets and all simple paths are gone through.
 * It shares no code and no method of solution with the class, and is slow.
 */
final class Model {
    static final int BAD = -2, STATE = -3, FULL = -4, NONE = -1, UNREACHABLE = 9999, BLOCK = 100;

    /** One edge: from, to, length, delay, cost. */
    private List<int[]> edges = new ArrayList<>();
    private int attack = 0;
    private int finding = NONE;
    private String text = "";
    private final Deque<Object[]> history = new ArrayDeque<>();
    private final Map<Integer, int[][]> tables = new HashMap<>();

    // ---- graph

    private void change() {
        List<int[]> copy = new ArrayList<>();
        for (int[] edge : edges) {
            copy.add(edge.clone());
        }
        history.addLast(new Object[] {copy, attack});
        if (history.size() > 12) {
            history.removeFirst();
        }
        tables.clear();
    }

    private static boolean node(int v) {
        return 0 <= v && v <= 7;
    }

    private static boolean nodes(int s, int t) {
        return node(s) && node(t);
    }

    private boolean exists(int e) {
        return 0 <= e && e < edges.size();
    }

    private boolean allExist(int set) {
        for (int e = 0; e < 32; e++) {
            if ((set & 1 << e) != 0 && !exists(e)) {
                return false;
            }
        }
        return true;
    }

    private static boolean goodValue(int what, int value) {
        return what == 2 && 0 <= value && value <= 99
            || what == 3 && (1 <= value && value <= 99 || value == BLOCK)
            || what == 4 && 1 <= value && value <= 9;
    }

    int addEdge(int from, int to, int length, int delay, int cost) {
        if (!nodes(from, to) || from == to
            || !goodValue(2, length) || !goodValue(3, delay) || !goodValue(4, cost)) {
            return BAD;
        }
        if (edges.size() == 16) {
            return FULL;
        }
        change();
        edges.add(new int[] {from, to, length, delay, cost});
        return edges.size() - 1;
    }

    int removeEdge(int edge) {
        if (!exists(edge)) {
            return BAD;
        }
        change();
        int moved = 0;
        for (int e = 0; e < edges.size(); e++) {
            if (e != edge && in(attack, e)) {
                moved |= 1 << (e > edge ? e - 1 : e);
            }
        }
        attack = moved;
        edges.remove(edge);
        return edges.size();
    }

    int setEdge(int edge, int what, int value) {
        if (!exists(edge) || !goodValue(what, value)) {
            return BAD;
        }
        change();
        int old = edges.get(edge)[what];
        edges.get(edge)[what] = value;
        return old;
    }

    int edge(int edge, int what) {
        if (!exists(edge) || what < 0 || what > 5) {
            return BAD;
        }
        return what < 5 ? edges.get(edge)[what] : in(attack, edge) ? 1 : 0;
    }

    int clear() {
        int size = edges.size();
        change();
        edges.clear();
        attack = 0;
        return size;
    }

    // ---- text

    int type(int letter) {
        if (letter < 0 || letter > 127) {
            return BAD;
        }
        if (text.length() == 110) {
            return FULL;
        }
        text += (char) letter;
        return text.length();
    }

    int clearText() {
        int size = text.length();
        text = "";
        return size;
    }

    /** The parts of an edge, byte by byte: which part is awaited, and the faults that look back or ahead. */
    static int faultOf(String text, List<int[]> read) {
        int part = 0;
        int[] edge = new int[5];
        int done = 0;
        for (int i = 0; i < text.length(); i++) {
            char c = text.charAt(i);
            if (c == ' ') {
                continue;
            }
            boolean digit = '0' <= c && c <= '9';
            boolean pair = digit && i + 1 < text.length() && Character.isDigit(text.charAt(i + 1));
            switch (part) {
                case 0, 1 -> {
                    if (c < 'a' || c > 'h' || done == 16 || part == 1 && c - 'a' == edge[0]) {
                        return i;
                    }
                    edge[part] = c - 'a';
                }
                case 2, 4 -> {
                    int slot = part == 2 ? 2 : 3;
                    if (part == 4 && c == 'x') {
                        edge[slot] = BLOCK;
                    } else if (digit) {
                        int end = pair ? i + 2 : i + 1;
                        edge[slot] = Integer.parseInt(text.substring(i, end));
                        i = end - 1;
                        if (part == 4 && edge[slot] == 0) {
                            return i;
                        }
                    } else {
                        return i;
                    }
                }
                case 3, 5 -> {
                    if (c != (part == 3 ? '+' : ':')) {
                        return i;
                    }
                }
                default -> {
                    if (!digit || c == '0') {
                        return i;
                    }
                    edge[4] = c - '0';
                    read.add(edge.clone());
                    done++;
                }
            }
            part = (part + 1) % 7;
        }
        return part == 0 ? NONE : text.length();
    }

    int fault() {
        return faultOf(text, new ArrayList<>());
    }

    int load() {
        List<int[]> read = new ArrayList<>();
        if (faultOf(text, read) != NONE) {
            return STATE;
        }
        change();
        edges = read;
        attack = 0;
        text = "";
        return edges.size();
    }

    // ---- lengths, distances, paths

    private static boolean in(int set, int e) {
        return (set & 1 << e) != 0;
    }

    /** -1 if the edge can't be used. */
    private int length(int e, int set) {
        int[] edge = edges.get(e);
        if (!in(set, e)) {
            return edge[2];
        }
        return edge[3] == BLOCK ? -1 : edge[2] + edge[3];
    }

    private int costOf(int set) {
        int sum = 0;
        for (int e = 0; e < edges.size(); e++) {
            sum += in(set, e) ? edges.get(e)[4] : 0;
        }
        return sum;
    }

    /** All distances under an attack, by Floyd and Warshall. */
    private int[][] table(int set) {
        int[][] known = tables.get(set);
        if (known != null) {
            return known;
        }
        int[][] d = new int[8][8];
        for (int[] row : d) {
            Arrays.fill(row, UNREACHABLE);
        }
        for (int v = 0; v < 8; v++) {
            d[v][v] = 0;
        }
        for (int e = 0; e < edges.size(); e++) {
            int[] edge = edges.get(e);
            if (length(e, set) >= 0) {
                d[edge[0]][edge[1]] = Math.min(d[edge[0]][edge[1]], length(e, set));
            }
        }
        for (int m = 0; m < 8; m++) {
            for (int s = 0; s < 8; s++) {
                for (int t = 0; t < 8; t++) {
                    d[s][t] = Math.min(d[s][t], d[s][m] + d[m][t]);
                }
            }
        }
        tables.put(set, d);
        return d;
    }

    private int dist(int s, int t, int set) {
        return table(set)[s][t];
    }

    /** All simple paths, each as the list of its edges, ordered by length and sequence. */
    private List<List<Integer>> simplePaths(int s, int t) {
        List<List<Integer>> result = new ArrayList<>();
        gather(s, t, 1 << s, new ArrayList<>(), result);
        result.sort((p, q) -> {
            if (lengthOf(p) != lengthOf(q)) {
                return Integer.compare(lengthOf(p), lengthOf(q));
            }
            for (int i = 0; i < p.size() && i < q.size(); i++) {
                if (!p.get(i).equals(q.get(i))) {
                    return Integer.compare(p.get(i), q.get(i));
                }
            }
            return Integer.compare(p.size(), q.size());
        });
        return result;
    }

    private void gather(int v, int t, int seen, List<Integer> path, List<List<Integer>> result) {
        if (v == t) {
            result.add(new ArrayList<>(path));
        }
        for (int e = edges.size() - 1; e >= 0; e--) {
            int[] edge = edges.get(e);
            if (edge[0] == v && !in(seen, edge[1]) && length(e, attack) >= 0) {
                path.add(e);
                gather(edge[1], t, seen | 1 << edge[1], path, result);
                path.remove(path.size() - 1);
            }
        }
    }

    private int lengthOf(List<Integer> path) {
        int sum = 0;
        for (int e : path) {
            sum += length(e, attack);
        }
        return sum;
    }

    int attack(int edge, boolean on) {
        if (!exists(edge)) {
            return BAD;
        }
        if (in(attack, edge) == on) {
            return STATE;
        }
        change();
        attack = on ? attack + (1 << edge) : attack - (1 << edge);
        return costOf(attack);
    }

    int setAttack(int set) {
        if (!allExist(set)) {
            return BAD;
        }
        change();
        attack = set;
        return costOf(attack);
    }

    int distance(int s, int t) {
        return nodes(s, t) ? dist(s, t, attack) : BAD;
    }

    int first(int s, int t, int i) {
        if (!nodes(s, t) || i < NONE) {
            return BAD;
        }
        List<List<Integer>> all = simplePaths(s, t);
        if (all.isEmpty()) {
            return NONE;
        }
        List<Integer> path = all.get(0);
        return i == NONE ? path.size() : i < path.size() ? path.get(i) : NONE;
    }

    int paths(int s, int t, int most) {
        if (!nodes(s, t) || most < 0) {
            return BAD;
        }
        return (int) simplePaths(s, t).stream().filter(p -> lengthOf(p) <= most).count();
    }

    int pathLength(int s, int t, int k) {
        if (!nodes(s, t) || k < 0 || k > 99) {
            return BAD;
        }
        List<List<Integer>> all = simplePaths(s, t);
        return k < all.size() ? lengthOf(all.get(k)) : NONE;
    }

    int tight(int s, int t) {
        if (!nodes(s, t)) {
            return BAD;
        }
        int set = 0;
        int[][] d = table(attack);
        for (int e = 0; e < edges.size() && s != t && d[s][t] != UNREACHABLE; e++) {
            int[] edge = edges.get(e);
            boolean usable = length(e, attack) >= 0
                && d[s][edge[0]] != UNREACHABLE && d[edge[1]][t] != UNREACHABLE;
            if (usable && d[s][edge[0]] + length(e, attack) + d[edge[1]][t] == d[s][t]) {
                set |= 1 << e;
            }
        }
        return set;
    }

    // ---- attacks

    int interdict(int s, int t, int budget) {
        return interdictResponse(s, t, budget, 0);
    }

    int interdictResponse(int s, int t, int budget, int repairs) {
        if (!nodes(s, t) || budget < 0 || budget > 5 || repairs < 0 || repairs > 3) {
            return BAD;
        }
        int best = 0;
        int bestDistance = -1;
        for (int set = 0; set < 1 << edges.size(); set++) {
            int cost = costOf(set);
            if (cost <= budget) {
                int d = repaired(s, t, set, repairs);
                if (d > bestDistance || d == bestDistance && cost < costOf(best)) {
                    best = set;
                    bestDistance = d;
                }
            }
        }
        finding = best;
        return bestDistance;
    }

    int greedy(int s, int t, int budget) {
        if (!nodes(s, t) || budget < 0 || budget > 20) {
            return BAD;
        }
        int set = 0;
        while (true) {
            int best = -1;
            for (int e = 0; e < edges.size(); e++) {
                if (in(set, e) || costOf(set | 1 << e) > budget) {
                    continue;
                }
                int gain = best < 0 ? 1 : dist(s, t, set | 1 << e) - dist(s, t, set | 1 << best);
                if (gain > 0 || gain == 0 && edges.get(e)[4] < edges.get(best)[4]) {
                    best = e;
                }
            }
            if (best < 0 || dist(s, t, set | 1 << best) <= dist(s, t, set)) {
                break;
            }
            set |= 1 << best;
        }
        finding = set;
        return dist(s, t, set);
    }

    int budgetFor(int s, int t, int aim) {
        if (!nodes(s, t) || aim < 0 || aim > UNREACHABLE) {
            return BAD;
        }
        for (int cost = 0; cost <= 5; cost++) {
            for (int set = 0; set < 1 << edges.size(); set++) {
                if (costOf(set) == cost && dist(s, t, set) >= aim) {
                    finding = set;
                    return cost;
                }
            }
        }
        return NONE;
    }

    int blockade(int s, int t) {
        if (!nodes(s, t)) {
            return BAD;
        }
        int blocks = 0;
        for (int e = 0; e < edges.size(); e++) {
            blocks |= edges.get(e)[3] == BLOCK ? 1 << e : 0;
        }
        int least = NONE;
        for (int set = 0; set < 1 << edges.size(); set++) {
            if ((set & ~blocks) == 0 && (least == NONE || costOf(set) < least) && isCut(s, t, set)) {
                least = costOf(set);
            }
        }
        return least;
    }

    private boolean isCut(int s, int t, int blocked) {
        int reached = 1 << s;
        for (int round = 0; round < 8; round++) {
            for (int e = 0; e < edges.size(); e++) {
                if (!in(blocked, e) && in(reached, edges.get(e)[0])) {
                    reached |= 1 << edges.get(e)[1];
                }
            }
        }
        return !in(reached, t);
    }

    /** The least distance over all choices of the edges that are repaired. */
    private int repaired(int s, int t, int set, int repairs) {
        int least = dist(s, t, set);
        for (int e = 0; e < edges.size() && repairs > 0; e++) {
            if (in(set, e)) {
                least = Math.min(least, repaired(s, t, set & ~(1 << e), repairs - 1));
            }
        }
        return least;
    }

    int respond(int s, int t, int set, int repairs) {
        if (!nodes(s, t) || !allExist(set) || repairs < 0 || repairs > 3) {
            return BAD;
        }
        return repaired(s, t, set, repairs);
    }

    int fortify(int s, int t, int budget, int most) {
        if (!nodes(s, t) || budget < 0 || budget > 3 || most < 0 || most > 2) {
            return BAD;
        }
        List<Integer> attacks = new ArrayList<>();
        for (int set = 0; set < 1 << edges.size(); set++) {
            if (costOf(set) <= budget) {
                attacks.add(set);
            }
        }
        int least = Integer.MAX_VALUE;
        for (int size = 0; size <= most; size++) {
            for (int forts = 0; forts < 1 << edges.size(); forts++) {
                if (Integer.bitCount(forts) != size) {
                    continue;
                }
                int greatest = 0;
                for (int set : attacks) {
                    greatest = (set & forts) == 0 ? Math.max(greatest, dist(s, t, set)) : greatest;
                }
                if (greatest < least) {
                    least = greatest;
                    finding = forts;
                }
            }
        }
        return least;
    }

    int finding() {
        return finding;
    }

    int worth(int s, int t, int edge) {
        if (!nodes(s, t) || !exists(edge)) {
            return BAD;
        }
        int other = attack ^ 1 << edge;
        int difference = dist(s, t, other) - dist(s, t, attack);
        return in(attack, edge) ? -difference : difference;
    }

    int neverHelps(int s, int t, int budget) {
        if (!nodes(s, t) || budget < 0 || budget > 5) {
            return BAD;
        }
        int never = (1 << edges.size()) - 1;
        for (int set = 0; set < 1 << edges.size(); set++) {
            for (int e = 0; e < edges.size() && costOf(set) <= budget; e++) {
                if (in(set, e) && dist(s, t, set) > dist(s, t, set - (1 << e))) {
                    never &= ~(1 << e);
                }
            }
        }
        return never;
    }

    private boolean goodChance(int s, int t, int set, int q) {
        return nodes(s, t) && allExist(set) && Integer.bitCount(set) <= 6 && q >= 0 && q <= 12;
    }

    long expected(int s, int t, int set, int q) {
        return goodChance(s, t, set, q) ? sum(s, t, set, 0, q, 0, false) : BAD;
    }

    long lost(int s, int t, int set, int q) {
        return goodChance(s, t, set, q) ? sum(s, t, set, 0, q, 0, true) : BAD;
    }

    private long sum(int s, int t, int set, int hit, int q, int e, boolean lost) {
        if (e == edges.size()) {
            boolean gone = dist(s, t, hit) == UNREACHABLE;
            return lost ? (gone ? 1 : 0) : (gone ? 0 : dist(s, t, hit));
        }
        if (!in(set, e)) {
            return sum(s, t, set, hit, q, e + 1, lost);
        }
        return q * sum(s, t, set, hit | 1 << e, q, e + 1, lost)
            + (12 - q) * sum(s, t, set, hit, q, e + 1, lost);
    }

    // ---- undo, counts, digest

    @SuppressWarnings("unchecked")
    int undo() {
        if (history.isEmpty()) {
            return STATE;
        }
        Object[] state = history.removeLast();
        edges = (List<int[]>) state[0];
        attack = (Integer) state[1];
        tables.clear();
        return history.size();
    }

    int count(int what) {
        int pairs = 0;
        int lengths = 0;
        for (int s = 0; s < 8; s++) {
            for (int t = 0; t < 8; t++) {
                pairs += s != t && dist(s, t, attack) != UNREACHABLE ? 1 : 0;
            }
        }
        for (int[] edge : edges) {
            lengths += edge[2];
        }
        int[] all = {edges.size(), Integer.bitCount(attack), costOf(attack), history.size(), text.length(), lengths, pairs};
        return what >= 0 && what < all.length ? all[what] : BAD;
    }

    long digest() {
        List<Integer> numbers = new ArrayList<>();
        for (int what = 0; what <= 6; what++) {
            numbers.add(count(what));
        }
        for (int e = 0; e < edges.size(); e++) {
            for (int what = 0; what <= 5; what++) {
                numbers.add(edge(e, what));
            }
        }
        for (int s = 0; s < 8; s++) {
            for (int t = 0; t < 8; t++) {
                numbers.add(distance(s, t));
            }
        }
        numbers.add(finding());
        for (int i = 0; i < text.length(); i++) {
            numbers.add((int) text.charAt(i));
        }
        long h = 61;
        for (int v : numbers) {
            h = 31 * h + v;
        }
        return h;
    }
}

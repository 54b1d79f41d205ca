import java.util.Random;

/** Long runs of calls, made by fixed seeds, on the class and on the model: every answer must be the same. */
public final class ModelTest {
    private static final int RUNS = 4000;
    /** An object is used for at most 512 calls, and a step that types a text takes fewer than 150. */
    private static final int CALLS = 512 - 150;
    private static final int STEPS = 1000;

    private final Due due = new Due("ModelTest");
    private final Random random;
    private final PathInterdiction x = new PathInterdiction();
    private final Model m = new Model();
    private final String run;
    // What the graphs of this run are like.
    private final int nodes;
    private final int longest;
    private final int longestDelay;
    private final int dearest;
    private final int blocksOfTen;
    private final int fewestEdges;
    private final int mostEdges;

    private ModelTest(int seed) {
        random = new Random(seed);
        run = "seed " + seed + ": ";
        nodes = 2 + random.nextInt(7);
        longest = pick(0, 1, 3, 9, 99);
        longestDelay = pick(1, 2, 5, 99);
        dearest = pick(1, 1, 2, 3, 9);
        blocksOfTen = pick(0, 2, 5, 10);
        fewestEdges = pick(0, 4, 8);
        mostEdges = pick(8, 12, 16);
    }

    public static void main(String[] args) {
        Due all = new Due("ModelTest");
        for (int seed = 1; seed <= RUNS; seed++) {
            ModelTest test = new ModelTest(seed);
            for (int i = 0; i < STEPS && test.due.asked() < CALLS && test.due.isClean(); i++) {
                test.step();
            }
            all.holds("the run of seed " + seed, test.due.isClean());
        }
        all.end();
    }

    private int pick(int... values) {
        return values[random.nextInt(values.length)];
    }

    private int upTo(int most) {
        return random.nextInt(most + 1);
    }

    /** Mostly from least to most, sometimes outside. */
    private int around(int least, int most) {
        return switch (random.nextInt(60)) {
            case 0 -> least - 1;
            case 1 -> most + 1;
            case 2 -> pick(Integer.MIN_VALUE, Integer.MAX_VALUE, -1000, 1000);
            case 3 -> least;
            case 4 -> most;
            default -> least + upTo(most - least);
        };
    }

    private int node() {
        return random.nextInt(80) == 0 ? pick(-1, 8, Integer.MIN_VALUE, Integer.MAX_VALUE) : random.nextInt(nodes);
    }

    private int anEdge() {
        return random.nextInt(40) == 0 ? pick(-1, 16, 31, 32, m.count(0)) : random.nextInt(Math.max(1, m.count(0)));
    }

    private int aSet() {
        int set = random.nextInt(1 << m.count(0));
        for (int i = pick(0, 1, 1, 2); i > 0; i--) {
            set &= random.nextInt(1 << m.count(0));
        }
        return random.nextInt(40) == 0 ? set | pick(1 << m.count(0), Integer.MIN_VALUE, 1 << 16, -1) : set;
    }

    private int delay() {
        return upTo(9) < blocksOfTen ? PathInterdiction.BLOCK : around(1, longestDelay);
    }

    private void is(String call, long got, long want) {
        due.is(run + call, got, want);
    }

    private void step() {
        if (m.count(0) < fewestEdges && random.nextInt(20) != 0) {
            add();
            return;
        }
        switch (random.nextInt(10)) {
            case 0, 1 -> graphCall();
            case 2 -> textCall();
            case 3, 4, 5 -> pathCall();
            case 6, 7, 8 -> attackCall();
            default -> lookCall();
        }
    }

    private void add() {
        int from = node();
        int to = node();
        int length = around(0, longest);
        int delay = delay();
        int cost = around(1, dearest);
        is("addEdge(" + from + ", " + to + ", " + length + ", " + delay + ", " + cost + ")",
            x.addEdge(from, to, length, delay, cost), m.addEdge(from, to, length, delay, cost));
    }

    private void graphCall() {
        int e = anEdge();
        switch (random.nextInt(12)) {
            case 0, 1, 2, 3 -> {
                if (m.count(0) < mostEdges || mostEdges == 16) {
                    add();
                }
            }
            case 4 -> is("removeEdge(" + e + ")", x.removeEdge(e), m.removeEdge(e));
            case 5, 6 -> {
                int what = around(2, 4);
                int value = what == 2 ? around(0, longest) : what == 3 ? delay() : around(1, dearest);
                is("setEdge(" + e + ", " + what + ", " + value + ")", x.setEdge(e, what, value), m.setEdge(e, what, value));
            }
            case 7 -> {
                boolean on = random.nextBoolean();
                is("attack(" + e + ", " + on + ")", x.attack(e, on), m.attack(e, on));
            }
            case 8, 9 -> {
                int set = aSet();
                is("setAttack(" + set + ")", x.setAttack(set), m.setAttack(set));
            }
            case 10 -> is("undo()", x.undo(), m.undo());
            default -> {
                if (random.nextInt(12) == 0) {
                    is("clear()", x.clear(), m.clear());
                }
            }
        }
    }

    private void textCall() {
        if (random.nextInt(3) == 0) {
            is("clearText()", x.clearText(), m.clearText());
            String text = TextMaker.make(random, nodes, longest, longestDelay);
            for (int i = 0; i < text.length(); i++) {
                int letter = text.charAt(i);
                is("type(" + letter + ")", x.type(letter), m.type(letter));
            }
        } else {
            int letter = random.nextInt(8) == 0 ? around(0, 127) : pick(' ', 'a', 'b', '1', '0', '+', 'x', ':');
            is("type(" + letter + ")", x.type(letter), m.type(letter));
        }
        is("fault()", x.fault(), m.fault());
        if (random.nextInt(3) == 0) {
            is("load()", x.load(), m.load());
        }
        is("count(4)", x.count(4), m.count(4));
    }

    private void pathCall() {
        int s = node();
        int t = node();
        String st = "(" + s + ", " + t;
        switch (random.nextInt(6)) {
            case 0 -> is("distance" + st + ")", x.distance(s, t), m.distance(s, t));
            case 1 -> {
                int i = around(-1, 4);
                is("first" + st + ", " + i + ")", x.first(s, t, i), m.first(s, t, i));
            }
            case 2 -> {
                int most = around(0, pick(3 * longest, 6 * longest + longestDelay));
                is("paths" + st + ", " + most + ")", x.paths(s, t, most), m.paths(s, t, most));
            }
            case 3 -> {
                int k = around(0, pick(3, 20, 99));
                is("pathLength" + st + ", " + k + ")", x.pathLength(s, t, k), m.pathLength(s, t, k));
            }
            case 4 -> is("tight" + st + ")", x.tight(s, t), m.tight(s, t));
            default -> {
                int e = anEdge();
                is("worth" + st + ", " + e + ")", x.worth(s, t, e), m.worth(s, t, e));
            }
        }
    }

    private void attackCall() {
        int s = node();
        int t = node();
        String st = "(" + s + ", " + t;
        int budget = around(0, 5);
        int repairs = around(0, 3);
        switch (random.nextInt(13)) {
            case 0 -> is("interdict" + st + ", " + budget + ")", x.interdict(s, t, budget), m.interdict(s, t, budget));
            case 1 -> {
                int rich = around(0, 20);
                is("greedy" + st + ", " + rich + ")", x.greedy(s, t, rich), m.greedy(s, t, rich));
            }
            case 2, 3 -> {
                int aim = random.nextInt(4) == 0 ? around(0, 9999) : upTo(3 * longest + longestDelay);
                is("budgetFor" + st + ", " + aim + ")", x.budgetFor(s, t, aim), m.budgetFor(s, t, aim));
            }
            case 4 -> is("blockade" + st + ")", x.blockade(s, t), m.blockade(s, t));
            case 5, 6 -> {
                int set = aSet();
                is("respond" + st + ", " + set + ", " + repairs + ")", x.respond(s, t, set, repairs), m.respond(s, t, set, repairs));
            }
            case 7 -> is("interdictResponse" + st + ", " + budget + ", " + repairs + ")",
                x.interdictResponse(s, t, budget, repairs), m.interdictResponse(s, t, budget, repairs));
            case 8, 9 -> {
                int poor = around(0, 3);
                int most = around(0, 2);
                is("fortify" + st + ", " + poor + ", " + most + ")", x.fortify(s, t, poor, most), m.fortify(s, t, poor, most));
            }
            case 10 -> is("neverHelps" + st + ", " + budget + ")", x.neverHelps(s, t, budget), m.neverHelps(s, t, budget));
            default -> {
                int set = aSet();
                int q = around(0, 12);
                is("expected" + st + ", " + set + ", " + q + ")", x.expected(s, t, set, q), m.expected(s, t, set, q));
                is("lost" + st + ", " + set + ", " + q + ")", x.lost(s, t, set, q), m.lost(s, t, set, q));
            }
        }
        is("finding()", x.finding(), m.finding());
    }

    private void lookCall() {
        switch (random.nextInt(3)) {
            case 0 -> is("digest()", x.digest(), m.digest());
            case 1 -> {
                int what = around(0, 6);
                is("count(" + what + ")", x.count(what), m.count(what));
            }
            default -> {
                int e = anEdge();
                int what = around(0, 5);
                is("edge(" + e + ", " + what + ")", x.edge(e, what), m.edge(e, what));
            }
        }
    }
}

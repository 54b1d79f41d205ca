import java.util.List;
import java.util.function.Supplier;
import java.util.function.ToLongFunction;

/** Questions that the document asks of many promises alike. */
final class Ask {
    private static final int BAD = PathInterdiction.BAD, STATE = PathInterdiction.STATE;
    private static final int MOST_STATES = 12;
    private static final List<Supplier<PathInterdiction>> BENCHES =
        List.of(Benches::fresh, Benches::some, Benches::full);

    /** A call with one argument that matters. */
    interface One {
        long on(PathInterdiction x, int value);
    }

    /** A call between two nodes. */
    interface Two {
        long on(PathInterdiction x, int from, int to);
    }

    private Ask() {
    }

    // ---- refused calls

    /** The call answers with an error, and nothing has changed behind it. */
    static void refuses(Due due, String call, long error, Supplier<PathInterdiction> bench,
                        ToLongFunction<PathInterdiction> refused) {
        PathInterdiction x = bench.get();
        due.is(call, refused.applyAsLong(x), error);
        sameInAll(due, "behind " + call, x, bench.get());
    }

    static void isBad(Due due, String call, ToLongFunction<PathInterdiction> refused) {
        for (Supplier<PathInterdiction> bench : BENCHES) {
            refuses(due, call, BAD, bench, refused);
        }
    }

    /** Both are alike in all that can be asked, also after each undo. */
    static void sameInAll(Due due, String where, PathInterdiction x, PathInterdiction y) {
        due.is(where + ": the fault", x.fault(), y.fault());
        for (int left = MOST_STATES; left >= 0; left--) {
            for (int what = 0; what <= 6; what++) {
                due.is(where + ": count(" + what + ")", x.count(what), y.count(what));
            }
            due.is(where + ": the finding", x.finding(), y.finding());
            due.is(where + ": the digest", x.digest(), y.digest());
            due.is(where + ": undo()", x.undo(), y.undo());
        }
        due.is(where + ": no more states", x.undo(), STATE);
    }

    // ---- ranges

    /** The first and the last value are taken; what is outside is BAD in every state, and changes nothing. */
    static void range(Due due, int least, int most, One call) {
        int[] inside = {least, Math.min(least + 1, most), Math.max(most - 1, least), most};
        for (int v : inside) {
            due.holds("the value " + v + " is taken", call.on(Benches.some(), v) != BAD);
        }
        outside(due, least, most, call);
    }

    private static void outside(Due due, int least, int most, One call) {
        // The steps are those at which a value would wrap around in a byte, a mask or a shift.
        int[] steps = {8, 16, 32, 64, 128, 256, 65536, Integer.MIN_VALUE};
        isBad(due, "the value " + (least - 1), x -> call.on(x, least - 1));
        isBad(due, "the value " + (most + 1), x -> call.on(x, most + 1));
        isBad(due, "the least int", x -> call.on(x, Integer.MIN_VALUE));
        isBad(due, "the greatest int", x -> call.on(x, Integer.MAX_VALUE));
        for (int step : steps) {
            for (int v : new int[] {least + step, most - step}) {
                if (v < least || v > most) {
                    isBad(due, "the value " + v, x -> call.on(x, v));
                }
            }
        }
    }

    static void from(Due due, Two call) {
        range(due, 0, 7, (x, v) -> call.on(x, v, 1));
        isBad(due, "both nodes -1", x -> call.on(x, -1, -1));
    }

    static void to(Due due, Two call) {
        range(due, 0, 7, (x, v) -> call.on(x, 1, v));
        isBad(due, "both nodes 8", x -> call.on(x, 8, 8));
    }

    /**
     * From every node over every other one to every third one: there are two edges, of the lengths 1 and 2; the first
     * one can be delayed by 5 for a cost of 1, the second one blocked for a cost of 2. Nothing leads back.
     */
    static void ways(Due due, Two call, long there, long back) {
        for (int way = 0; way < 512; way++) {
            int s = way >> 6;
            int middle = way >> 3 & 7;
            int t = way & 7;
            if (s != middle && middle != t && s != t) {
                PathInterdiction x = new PathInterdiction();
                x.addEdge(s, middle, 1, 5, 1);
                x.addEdge(middle, t, 2, PathInterdiction.BLOCK, 2);
                due.is("from " + s + " by " + middle + " to " + t, call.on(x, s, t), there);
                due.is("back from " + t + " by " + middle + " to " + s, call.on(x, t, s), back);
            }
        }
    }

    /** As ways(), for a call that finds a set. */
    static void waysOfFinder(Due due, Two call, int there, int foundThere, int back) {
        ways(due, call, there, back);
        ways(due, (x, s, t) -> {
            call.on(x, s, t);
            return x.finding();
        }, foundThere, 0);
    }

    /** Edges that exist are taken, others are BAD, and change nothing. */
    static void edge(Due due, One call) {
        for (Supplier<PathInterdiction> bench : BENCHES) {
            int size = bench.get().count(0);
            for (int e = 0; e < size; e++) {
                due.holds("edge " + e + " of " + size + " is taken", call.on(bench.get(), e) != BAD);
            }
            int[] wrong = {-1, size, size + 1, 16, 17, 31, 32, 32 + size, 64, 256, -32, Integer.MIN_VALUE, Integer.MAX_VALUE};
            for (int e : wrong) {
                refuses(due, "edge " + e + " of " + size, BAD, bench, x -> call.on(x, e));
            }
        }
    }

    /** Sets of edges that exist are taken, others are BAD, and change nothing. */
    static void set(Due due, One call) {
        for (Supplier<PathInterdiction> bench : BENCHES) {
            int size = bench.get().count(0);
            due.holds("the empty set is taken", call.on(bench.get(), 0) != BAD);
            for (int e = 0; e < size; e++) {
                int one = 1 << e;
                due.holds("the set {" + e + "} is taken", call.on(bench.get(), one) != BAD);
            }
            for (int e = size; e < 32; e++) {
                int one = 1 << e;
                refuses(due, "the set {" + e + "}", BAD, bench, x -> call.on(x, one));
            }
            int some = (1 << size) - 1 & 3;
            refuses(due, "a set with one edge too many", BAD, bench, x -> call.on(x, some | 1 << size));
            refuses(due, "the set -1", BAD, bench, x -> call.on(x, -1));
        }
    }

    // ---- changes and questions

    /** The call is a change, from each of the benches: one state more, which undo() brings back. */
    @SafeVarargs
    static void change(Due due, ToLongFunction<PathInterdiction> call, Supplier<PathInterdiction>... benches) {
        for (Supplier<PathInterdiction> bench : benches) {
            PathInterdiction x = bench.get();
            PathInterdiction y = bench.get();
            int held = Math.min(MOST_STATES, x.count(3) + 1);
            due.holds("no error", call.applyAsLong(x) >= 0);
            due.is("the states then", x.count(3), held);
            due.is("undo()", x.undo(), held - 1);
            sameEdges(due, x, y);
            for (int left = held - 2; left >= 0; left--) {
                due.is("undo() again", x.undo(), left);
                y.undo();
                for (int what : new int[] {0, 1, 2, 5, 6}) {
                    due.is("count(" + what + ") of an older state", x.count(what), y.count(what));
                }
            }
            due.is("no more states", x.undo(), STATE);
        }
    }

    private static void sameEdges(Due due, PathInterdiction x, PathInterdiction y) {
        due.is("the edges", x.count(0), y.count(0));
        for (int e = 0; e < y.count(0); e++) {
            for (int what = 0; what <= 5; what++) {
                due.is("edge(" + e + ", " + what + ")", x.edge(e, what), y.edge(e, what));
            }
        }
    }

    /** The call changes nothing at all, though it is no error. */
    static void question(Due due, ToLongFunction<PathInterdiction> call) {
        for (Supplier<PathInterdiction> bench : BENCHES) {
            PathInterdiction x = bench.get();
            long answer = call.applyAsLong(x);
            due.is("the same answer again", call.applyAsLong(x), answer);
            sameInAll(due, "behind the question", x, bench.get());
        }
    }

    /** The call changes nothing but the finding. */
    static void finder(Due due, ToLongFunction<PathInterdiction> call) {
        for (Supplier<PathInterdiction> bench : BENCHES) {
            PathInterdiction x = bench.get();
            PathInterdiction y = bench.get();
            long answer = call.applyAsLong(x);
            int finding = x.finding();
            due.holds("there is a finding", finding >= 0);
            due.is("the same answer again", call.applyAsLong(x), answer);
            due.is("the same finding again", x.finding(), finding);
            // Both are given the same finding, so that they must be alike in all.
            x.interdict(0, 0, 0);
            y.interdict(0, 0, 0);
            sameInAll(due, "behind the finding", x, y);
        }
    }

    /** The call answers as due, and finds this set. */
    static void finds(Due due, PathInterdiction x, String call, long got, long want, int finding) {
        due.is(call, got, want);
        due.is(call + ", the finding", x.finding(), finding);
    }
}

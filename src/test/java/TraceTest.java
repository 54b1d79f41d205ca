import java.util.ArrayList;
import java.util.List;
import java.util.function.ToLongFunction;

/** Promises 5, 9 and 13 to 32: a question leaves no trace but the finding, whatever is asked after it. */
public final class TraceTest {
    private static final Due due = new Due("TraceTest");
    private static final String GRAPH = "ab1+5:1 bc2+x:2 ca0+3:1 ad9+2:2 cd1+4:1 db0+x:1 ba3+1:3 dc1+1:1";

    private TraceTest() {
    }

    public static void main(String[] args) {
        List<ToLongFunction<PathInterdiction>> questions = questions();
        for (int i = 0; i < questions.size(); i++) {
            long alone = questions.get(i).applyAsLong(bench());
            for (int j = 0; j < questions.size(); j++) {
                PathInterdiction x = bench();
                questions.get(j).applyAsLong(x);
                due.is("question " + i + " after question " + j, questions.get(i).applyAsLong(x), alone);
                due.is("changes after question " + j, x.count(3), 2);
                due.is("text after question " + j, x.count(4), 3);
                due.is("attack after question " + j, x.count(2), 3);
            }
        }
        due.end();
    }

    private static PathInterdiction bench() {
        PathInterdiction x = Texts.loaded(GRAPH);
        x.setAttack(Texts.set(0, 1));
        Texts.typeInto(x, "ab ");
        return x;
    }

    private static List<ToLongFunction<PathInterdiction>> questions() {
        List<ToLongFunction<PathInterdiction>> list = new ArrayList<>();
        for (int node = 0; node < 4; node++) {
            int s = node;
            for (int other = 0; other < 4; other++) {
                int t = other;
                list.add(x -> x.distance(s, t));
                list.add(x -> x.first(s, t, -1));
                list.add(x -> x.paths(s, t, 12));
                list.add(x -> x.pathLength(s, t, 1));
                list.add(x -> x.tight(s, t));
                list.add(x -> x.interdict(s, t, 3) * 65536L + x.finding());
                list.add(x -> x.greedy(s, t, 4) * 65536L + x.finding());
                list.add(x -> x.budgetFor(s, t, 0) * 65536L + x.finding());
                list.add(x -> x.blockade(s, t));
                list.add(x -> x.respond(s, t, 255, 2));
                list.add(x -> x.interdictResponse(s, t, 4, 1) * 65536L + x.finding());
                list.add(x -> x.fortify(s, t, 2, 1) * 65536L + x.finding());
                list.add(x -> x.worth(s, t, 2));
                list.add(x -> x.neverHelps(s, t, 3));
                list.add(x -> x.expected(s, t, 7, 5));
                list.add(x -> x.lost(s, t, 7, 5));
            }
        }
        list.add(x -> x.fault());
        list.add(x -> x.edge(3, 2));
        list.add(x -> x.count(6));
        return list;
    }
}

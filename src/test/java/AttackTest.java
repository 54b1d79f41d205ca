/** Promises 18 to 25: interdict, greedy, budgetFor, blockade, respond, interdictResponse, fortify, finding. */
public final class AttackTest {
    private static final int BAD = PathInterdiction.BAD, NONE = PathInterdiction.NONE;
    private static final int FAR = PathInterdiction.UNREACHABLE;
    private static final Due due = new Due("AttackTest");

    /** Two ways from a to d: by b (5), by c (6), and a long edge (9). */
    private static final String DIAMOND = "ab2+3:1 bd3+x:2 ac3+4:3 cd3+5:4 ad9+9:5";
    /** A short way from a to c by b, and a long edge. */
    private static final String DETOUR = "ab1+x:1 bc1+5:1 ac50+10:1";

    private AttackTest() {
    }

    public static void main(String[] args) {
        interdict();
        interdictTies();
        greedy();
        greedyBudgets();
        budgetFor();
        blockade();
        respond();
        interdictResponse();
        fortify();
        finding();
        presentAttackIsNotRegarded();
        wrongArguments();
        due.end();
    }

    private static void finds(PathInterdiction x, String call, long got, long want, int finding) {
        due.is(call, got, want);
        due.is(call + ", finding", x.finding(), finding);
    }

    private static void interdict() {
        PathInterdiction x = Texts.loaded(DIAMOND);
        finds(x, "18: budget 0", x.interdict(0, 3, 0), 5, 0);
        finds(x, "18: budget 1", x.interdict(0, 3, 1), 6, Texts.set(0));
        finds(x, "18: budget 2", x.interdict(0, 3, 2), 6, Texts.set(0));
        finds(x, "18: budget 3", x.interdict(0, 3, 3), 6, Texts.set(0));
        finds(x, "18: budget 4", x.interdict(0, 3, 4), 8, Texts.set(0, 2));
        finds(x, "18: budget 5", x.interdict(0, 3, 5), 9, Texts.set(1, 2));
        finds(x, "18: s = t", x.interdict(0, 0, 5), 0, 0);
        finds(x, "18: no path anyway", x.interdict(3, 0, 5), FAR, 0);
        PathInterdiction y = Texts.loaded("ab1+x:5");
        finds(y, "18: too dear", y.interdict(0, 1, 4), 1, 0);
        finds(y, "18: just payable", y.interdict(0, 1, 5), FAR, 1);
    }

    private static void interdictTies() {
        PathInterdiction x = Texts.loaded("ab1+5:1 bc1+5:1");
        finds(x, "18: the least number", x.interdict(0, 2, 1), 7, Texts.set(0));
        PathInterdiction y = Texts.loaded("ab1+5:2 bc1+5:1");
        finds(y, "18: the cheapest one", y.interdict(0, 2, 2), 7, Texts.set(1));
        PathInterdiction z = Texts.loaded("ab1+9:2 ab1+9:2");
        finds(z, "18: two that help together", z.interdict(0, 1, 4), 10, 3);
        finds(z, "18: one alone does not help", z.interdict(0, 1, 3), 1, 0);
        PathInterdiction w = Texts.loaded("ab1+5:1 ab1+5:1 bc1+5:1 cd1+5:1");
        finds(w, "18: {2, 3} costs less than {0, 1, 2}", w.interdict(0, 3, 3), 13, Texts.set(2, 3));
        PathInterdiction v = Texts.loaded("ab1+1:1 bc1+3:2 cd1+3:2 de1+5:3");
        finds(v, "18: {1, 2} is a less number than {0, 3}", v.interdict(0, 4, 4), 10, Texts.set(1, 2));
        PathInterdiction u = Texts.loaded("ba1+5:2 cb1+5:1");
        finds(u, "18: the node a as t", u.interdict(2, 0, 2), 7, Texts.set(1));
    }

    private static void greedy() {
        PathInterdiction x = Texts.loaded("ab1+9:2 ab1+9:2");
        finds(x, "19: no single step helps", x.greedy(0, 1, 20), 1, 0);
        PathInterdiction y = Texts.loaded("ab1+5:3 bc1+5:1 cd1+9:2");
        finds(y, "19: budget 0", y.greedy(0, 3, 0), 3, 0);
        finds(y, "19: budget 1", y.greedy(0, 3, 1), 8, Texts.set(1));
        finds(y, "19: budget 2", y.greedy(0, 3, 2), 12, Texts.set(2));
        finds(y, "19: budget 3", y.greedy(0, 3, 3), 17, Texts.set(1, 2));
        finds(y, "19: budget 5", y.greedy(0, 3, 5), 17, Texts.set(1, 2));
        finds(y, "19: budget 6", y.greedy(0, 3, 6), 22, Texts.set(0, 1, 2));
        finds(y, "19: s = t", y.greedy(1, 1, 20), 0, 0);
        finds(y, "19: no path", y.greedy(3, 0, 20), FAR, 0);
        PathInterdiction z = Texts.loaded("ab1+5:1 bc1+5:1");
        finds(z, "19: the least one", z.greedy(0, 2, 1), 7, Texts.set(0));
        PathInterdiction w = Texts.loaded("ab1+5:2 bc1+5:1");
        finds(w, "19: the cheapest one", w.greedy(0, 2, 2), 7, Texts.set(1));
        PathInterdiction v = Texts.loaded("ab1+9:1 bc1+x:1");
        finds(v, "19: it ends when t is unreachable", v.greedy(0, 2, 20), FAR, Texts.set(1));
    }

    private static void greedyBudgets() {
        PathInterdiction x = Texts.loaded("ab1+5:9 bc1+5:9 cd1+5:2");
        finds(x, "19: the whole budget", x.greedy(0, 3, 20), 18, 7);
        finds(x, "19: one too little", x.greedy(0, 3, 19), 13, Texts.set(0, 2));
        // The best attack is {1, 2}, but neither of its edges helps alone.
        PathInterdiction y = Texts.loaded("ab1+5:3 bc1+6:3 bc1+x:1 bc9+x:2");
        finds(y, "18: the best attack", y.interdict(0, 2, 5), 8, Texts.set(1, 2));
        finds(y, "19: step by step", y.greedy(0, 2, 5), 7, Texts.set(0));
    }

    private static void budgetFor() {
        PathInterdiction x = Texts.loaded(DIAMOND);
        finds(x, "20: aim 0", x.budgetFor(0, 3, 0), 0, 0);
        finds(x, "20: aim 6", x.budgetFor(0, 3, 6), 1, Texts.set(0));
        finds(x, "20: aim 5", x.budgetFor(0, 3, 5), 0, 0);
        finds(x, "20: aim 7", x.budgetFor(0, 3, 7), 4, Texts.set(0, 2));
        finds(x, "20: aim 9", x.budgetFor(0, 3, 9), 5, Texts.set(1, 2));
        finds(x, "20: aim 8", x.budgetFor(0, 3, 8), 4, Texts.set(0, 2));
        finds(x, "20: aim 10 costs too much, the finding stays", x.budgetFor(0, 3, 10), NONE, Texts.set(0, 2));
        finds(x, "20: unreachable", x.budgetFor(0, 3, FAR), NONE, Texts.set(0, 2));
        finds(x, "20: unreachable already", x.budgetFor(3, 0, FAR), 0, 0);
        finds(x, "20: one edge blocked", x.budgetFor(1, 3, FAR), 2, Texts.set(1));
        finds(x, "20: s = t", x.budgetFor(1, 1, 1), NONE, Texts.set(1));
        PathInterdiction y = Texts.loaded("ab1+9:1 bc1+5:1 cd1+9:1");
        finds(y, "20: the least number, though others do more", y.budgetFor(0, 3, 8), 1, Texts.set(0));
        PathInterdiction z = Texts.loaded("ab1+2:1 bc1+9:1");
        finds(z, "20: the aim decides", z.budgetFor(0, 2, 5), 1, Texts.set(1));
        PathInterdiction v = Texts.loaded("ab1+1:1 bc1+3:2 cd1+3:2 de1+5:3");
        finds(v, "20: {1, 2} is a less number than {0, 3}", v.budgetFor(0, 4, 10), 4, Texts.set(1, 2));
        PathInterdiction w = Texts.loaded("ab1+x:6");
        finds(w, "20: a cost of 6 is too much", w.budgetFor(0, 1, 2), NONE, NONE);
        w.setEdge(0, 4, 5);
        finds(w, "20: a cost of 5 is not", w.budgetFor(0, 1, 2), 5, 1);
    }

    private static void blockade() {
        PathInterdiction x = Texts.loaded("ab1+x:5 bc1+x:4 ac1+x:9");
        due.is("21: the cheapest cut", x.blockade(0, 2), 13);
        due.is("21: part of it", x.blockade(0, 1), 5);
        due.is("21: unreachable already", x.blockade(2, 0), 0);
        due.is("21: s = t", x.blockade(1, 1), NONE);
        x.setEdge(1, 3, 99);
        due.is("21: a delay does not block", x.blockade(0, 2), 14);
        x.setEdge(2, 3, 1);
        due.is("21: no blockade", x.blockade(0, 2), NONE);
        due.is("21: it finds nothing", x.finding(), NONE);
        PathInterdiction y = new PathInterdiction();
        for (int e = 0; e < 16; e++) {
            y.addEdge(0, 1, 0, PathInterdiction.BLOCK, 9);
        }
        due.is("21: whatever its cost", y.blockade(0, 1), 144);
        PathInterdiction z = Texts.loaded("ab1+x:3 ac1+x:3 bd1+x:2 cd1+x:2 bc1+1:1 db1+x:1");
        due.is("21: the two edges at the end", z.blockade(0, 3), 4);
    }

    private static void respond() {
        PathInterdiction x = Texts.loaded(DETOUR);
        due.is("22: no attack", x.respond(0, 2, 0, 0), 2);
        due.is("22: no attack, repairs", x.respond(0, 2, 0, 3), 2);
        due.is("22: blocked", x.respond(0, 2, 1, 0), 50);
        due.is("22: a blocked edge repaired", x.respond(0, 2, 1, 1), 2);
        due.is("22: all attacked", x.respond(0, 2, 7, 0), 60);
        due.is("22: one repair", x.respond(0, 2, 7, 1), 7);
        due.is("22: two repairs", x.respond(0, 2, 7, 2), 2);
        due.is("22: three repairs", x.respond(0, 2, 7, 3), 2);
        due.is("22: s = t", x.respond(1, 1, 7, 0), 0);
        due.is("22: no path", x.respond(2, 0, 7, 3), FAR);
        due.is("22: blocked with no repair", x.respond(0, 1, 1, 0), FAR);
        due.is("22: an edge that does not exist", x.respond(0, 2, 8, 0), BAD);
        due.is("22: a negative set", x.respond(0, 2, -1, 0), BAD);
        due.is("22: it finds nothing", x.finding(), NONE);
        PathInterdiction y = Texts.loaded("ab0+9:1 bc0+8:1 cd0+7:1 de0+6:1 ef0+5:1");
        int[] left = {35, 26, 18, 11};
        for (int repairs = 0; repairs <= 3; repairs++) {
            due.is("22: the dearest are repaired, " + repairs, y.respond(0, 5, 31, repairs), left[repairs]);
        }
        PathInterdiction z = Texts.loaded("ab1+x:1 bc1+x:1 cd1+x:1 de1+x:1");
        due.is("22: more blocks than repairs", z.respond(0, 4, 15, 3), FAR);
        due.is("22: just enough repairs", z.respond(0, 4, 14, 3), 4);
    }

    private static void interdictResponse() {
        PathInterdiction x = Texts.loaded(DETOUR);
        finds(x, "23: as interdict", x.interdictResponse(0, 2, 1, 0), 50, Texts.set(0));
        finds(x, "23: as interdict", x.interdictResponse(0, 2, 2, 0), 60, Texts.set(0, 2));
        finds(x, "23: all is repaired", x.interdictResponse(0, 2, 1, 1), 2, 0);
        finds(x, "23: one is repaired", x.interdictResponse(0, 2, 2, 1), 7, Texts.set(0, 1));
        finds(x, "23: no more is gained", x.interdictResponse(0, 2, 3, 1), 7, Texts.set(0, 1));
        finds(x, "23: two repairs", x.interdictResponse(0, 2, 5, 2), 2, 0);
        PathInterdiction y = Texts.loaded("ab1+x:1 bc1+x:1 cd1+x:1 de1+x:1");
        finds(y, "23: three repairs, four blocks", y.interdictResponse(0, 4, 4, 3), FAR, 15);
        finds(y, "23: three repairs, three blocks", y.interdictResponse(0, 4, 3, 3), 4, 0);
        PathInterdiction z = Texts.loaded("bd0+6:1 ab0+x:1");
        finds(z, "23: the second edge of the path is the first one here", z.interdictResponse(0, 3, 3, 1), 6, 3);
        finds(y, "23: two repairs, three blocks", y.interdictResponse(0, 4, 3, 2), FAR, 7);
    }

    private static void fortify() {
        PathInterdiction x = Texts.loaded(DIAMOND);
        finds(x, "24: none may be fortified", x.fortify(0, 3, 1, 0), 6, 0);
        finds(x, "24: one edge", x.fortify(0, 3, 1, 1), 5, Texts.set(0));
        finds(x, "24: fewest edges", x.fortify(0, 3, 1, 2), 5, Texts.set(0));
        finds(x, "24: one is no use", x.fortify(0, 3, 2, 1), 6, 0);
        finds(x, "24: two edges", x.fortify(0, 3, 2, 2), 5, Texts.set(0, 1));
        finds(x, "24: budget 3", x.fortify(0, 3, 3, 2), 5, Texts.set(0, 1));
        finds(x, "24: budget 0", x.fortify(0, 3, 0, 2), 5, 0);
        finds(x, "24: s = t", x.fortify(0, 0, 3, 2), 0, 0);
        finds(x, "24: no path", x.fortify(3, 0, 3, 2), FAR, 0);
        PathInterdiction y = Texts.loaded("ab1+9:1 ab1+9:1");
        finds(y, "24: the least number", y.fortify(0, 1, 2, 1), 1, Texts.set(0));
        PathInterdiction z = Texts.loaded("ab1+2:1 ab1+9:1 bc1+1:1");
        finds(z, "24: the edge that makes it least", z.fortify(0, 2, 2, 1), 3, Texts.set(0));
        PathInterdiction w = Texts.loaded("ab1+5:1 bc1+5:1");
        finds(w, "24: one of two", w.fortify(0, 2, 1, 1), 7, 0);
        finds(w, "24: both", w.fortify(0, 2, 1, 2), 2, 3);
        PathInterdiction v = Texts.loaded("dc2+5:2 ce3+5:1 ad0+6:2");
        finds(v, "24: {0, 2} is a less number than {1, 2}", v.fortify(0, 4, 3, 2), 10, Texts.set(0, 2));
    }

    private static void finding() {
        PathInterdiction x = Texts.loaded(DIAMOND);
        due.is("25: nothing yet", x.finding(), NONE);
        x.interdict(0, 3, 6);
        x.greedy(0, 8, 3);
        x.fortify(0, 3, 4, 0);
        due.is("25: errors find nothing", x.finding(), NONE);
        x.interdict(0, 3, 5);
        due.is("25: as found", x.finding(), Texts.set(1, 2));
        x.interdict(0, 3, -1);
        x.interdictResponse(0, 3, 0, 4);
        x.budgetFor(0, 3, -1);
        due.is("25: errors change nothing", x.finding(), Texts.set(1, 2));
        x.respond(0, 3, 1, 1);
        x.neverHelps(0, 3, 5);
        x.blockade(0, 3);
        x.worth(0, 3, 0);
        x.expected(0, 3, 1, 6);
        x.lost(0, 3, 1, 6);
        x.tight(0, 3);
        due.is("25: calls that find nothing", x.finding(), Texts.set(1, 2));
        x.removeEdge(1);
        due.is("25: after removeEdge", x.finding(), Texts.set(1, 2));
        x.clear();
        due.is("25: after clear", x.finding(), Texts.set(1, 2));
        x.undo();
        x.undo();
        due.is("25: after undo", x.finding(), Texts.set(1, 2));
        x.greedy(0, 3, 1);
        due.is("25: until the next one", x.finding(), Texts.set(0));
    }

    private static void presentAttackIsNotRegarded() {
        PathInterdiction x = Texts.loaded(DIAMOND);
        x.setAttack(Texts.set(1, 2));
        finds(x, "18: regards only what it is given", x.interdict(0, 3, 1), 6, Texts.set(0));
        finds(x, "19: so does greedy", x.greedy(0, 3, 1), 6, Texts.set(0));
        finds(x, "20: so does budgetFor", x.budgetFor(0, 3, 7), 4, Texts.set(0, 2));
        due.is("21: so does blockade", x.blockade(1, 3), 2);
        due.is("22: so does respond", x.respond(0, 3, 0, 0), 5);
        finds(x, "23: so does interdictResponse", x.interdictResponse(0, 3, 1, 1), 5, 0);
        finds(x, "24: so does fortify", x.fortify(0, 3, 2, 2), 5, Texts.set(0, 1));
        due.is("27: so does neverHelps", x.neverHelps(0, 3, 1), Texts.set(1, 2, 3, 4));
        due.is("28: so does expected", x.expected(0, 3, 0, 6), 5);
        due.is("29: so does lost", x.lost(1, 3, 0, 6), 0);
        due.is("18: the present attack stays", x.count(2), 5);
        due.is("18: none of them is a change", x.count(3), 2);
    }

    private static void wrongArguments() {
        PathInterdiction x = Texts.loaded(DIAMOND);
        int[] nodes = {-1, 8, Integer.MIN_VALUE, Integer.MAX_VALUE};
        for (int v : nodes) {
            for (int side = 0; side < 3; side++) {
                int s = side == 1 ? 0 : v;
                int t = side == 0 ? 0 : v;
                due.is("18: nodes " + s + ", " + t, x.interdict(s, t, 1), BAD);
                due.is("19: nodes " + s + ", " + t, x.greedy(s, t, 1), BAD);
                due.is("20: nodes " + s + ", " + t, x.budgetFor(s, t, 1), BAD);
                due.is("21: nodes " + s + ", " + t, x.blockade(s, t), BAD);
                due.is("22: nodes " + s + ", " + t, x.respond(s, t, 1, 1), BAD);
                due.is("23: nodes " + s + ", " + t, x.interdictResponse(s, t, 1, 1), BAD);
                due.is("24: nodes " + s + ", " + t, x.fortify(s, t, 1, 1), BAD);
            }
        }
        int[] below = {-1, Integer.MIN_VALUE};
        for (int v : below) {
            due.is("18: budget " + v, x.interdict(0, 3, v), BAD);
            due.is("19: budget " + v, x.greedy(0, 3, v), BAD);
            due.is("20: aim " + v, x.budgetFor(0, 3, v), BAD);
            due.is("22: repairs " + v, x.respond(0, 3, 1, v), BAD);
            due.is("23: budget " + v, x.interdictResponse(0, 3, v, 1), BAD);
            due.is("23: repairs " + v, x.interdictResponse(0, 3, 1, v), BAD);
            due.is("24: budget " + v, x.fortify(0, 3, v, 1), BAD);
            due.is("24: most " + v, x.fortify(0, 3, 1, v), BAD);
        }
        due.is("18: budget 6", x.interdict(0, 3, 6), BAD);
        due.is("19: budget 21", x.greedy(0, 3, 21), BAD);
        due.is("20: aim 10000", x.budgetFor(0, 3, 10000), BAD);
        due.is("22: repairs 4", x.respond(0, 3, 1, 4), BAD);
        due.is("23: budget 6", x.interdictResponse(0, 3, 6, 1), BAD);
        due.is("23: repairs 4", x.interdictResponse(0, 3, 1, 4), BAD);
        due.is("24: budget 4", x.fortify(0, 3, 4, 1), BAD);
        due.is("24: most 3", x.fortify(0, 3, 1, 3), BAD);
        due.is("25: errors find nothing", x.finding(), NONE);
    }
}

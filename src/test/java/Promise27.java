/** Promise 27: neverHelps. */
final class Promise27 {
    private Promise27() {
    }

    static void tell(Section promise) {
        promise.says("Returns the edges that never help an attacker with a budget",
            due -> Ask.question(due, x -> x.neverHelps(0, 3, 5)));
        promise.says("those for which there is no set of edges with at most this cost", Promise27::atMostCost);
        promise.says("which contains the edge, and under which the distance is greater than it is without the edge",
            Promise27::helpsTogether);
        promise.says("`from`: the node s", due -> Ask.from(due, (x, s, t) -> x.neverHelps(s, t, 5)));
        promise.says("`to`: the node t", due -> Ask.to(due, (x, s, t) -> x.neverHelps(s, t, 0)));
        promise.says("the node t", due -> Ask.ways(due, (x, s, t) -> x.neverHelps(s, t, 1), 2, 3));
        promise.says("`budget`: the greatest cost, 0 to 5", due -> Ask.range(due, 0, 5, (x, b) -> x.neverHelps(0, 3, b)));
        promise.says("Returns the set", Promise27::emptyAndAll);
        promise.says("BAD", due -> Ask.isBad(due, "budget 6", x -> x.neverHelps(0, 0, 6)));
    }

    private static void atMostCost(Due due) {
        for (int cost = 1; cost <= 9; cost++) {
            for (int budget = 0; budget <= 5; budget++) {
                PathInterdiction x = Texts.loaded("ab1+1:" + cost);
                due.is("cost " + cost + ", budget " + budget, x.neverHelps(0, 1, budget), cost <= budget ? 0 : 1);
            }
        }
        PathInterdiction y = Texts.loaded("ab1+1:2 ab1+1:3");
        due.is("a sum of 5, budget 5", y.neverHelps(0, 1, 5), 0);
        due.is("a sum of 5, budget 4", y.neverHelps(0, 1, 4), 3);
    }

    private static void helpsTogether(Due due) {
        PathInterdiction x = Texts.loaded(Benches.DIAMOND);
        int[] want = {31, 30, 28, 28, 24, 16};
        for (int budget = 0; budget <= 5; budget++) {
            due.is("budget " + budget, x.neverHelps(0, 3, budget), want[budget]);
        }
        PathInterdiction y = Texts.loaded("ab1+1:1 ab2+1:1 ab4+1:1");
        due.is("the second one helps beside a greater delay only", y.neverHelps(0, 1, 5), 6);
        y.setEdge(0, 3, 2);
        due.is("then it does", y.neverHelps(0, 1, 5), 4);
        y.interdictResponse(0, 1, 5, 3);
        due.is("repairs asked for before are no matter", y.neverHelps(0, 1, 5), 4);
        PathInterdiction w = Texts.loaded("ab1+5:1 bc1+9:1 bc1+9:5");
        due.is("beside one that helps", w.neverHelps(0, 2, 2), 6);
        PathInterdiction z = Benches.ladder(1);
        due.is("five of 16", z.neverHelps(0, 1, 5), 0xffff & ~31);
        due.is("one of 16", z.neverHelps(0, 1, 1), 0xfffe);
    }

    private static void emptyAndAll(Due due) {
        due.is("no edges", Benches.fresh().neverHelps(0, 1, 5), 0);
        due.is("no edges, s = t", Benches.fresh().neverHelps(0, 0, 5), 0);
        PathInterdiction x = Benches.ladder(9);
        due.is("all 16 are too dear", x.neverHelps(0, 1, 5), 0xffff);
        due.is("all 16, no path", x.neverHelps(1, 0, 5), 0xffff);
        due.is("all 16, s = t", x.neverHelps(0, 0, 5), 0xffff);
        due.is("all 16, budget 0", Benches.ladder(1).neverHelps(0, 1, 0), 0xffff);
        due.is("all of a chain help", Texts.loaded(Benches.CHAIN).neverHelps(0, 7, 1), 0);
        due.is("those behind t do not", Texts.loaded(Benches.CHAIN).neverHelps(0, 6, 1), 64);
    }
}

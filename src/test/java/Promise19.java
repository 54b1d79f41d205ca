/** Promise 19: greedy. */
final class Promise19 {
    private static final int BAD = PathInterdiction.BAD, FAR = PathInterdiction.UNREACHABLE;

    private Promise19() {
    }

    static void tell(Section promise) {
        promise.says("Finds an attack step by step, beginning with the empty set", Promise19::stepByStep);
        promise.says("in each step, of all edges that are not in the set", Promise19::sixteenSteps);
        promise.says("and with which its cost would be at most the budget", Promise19::atMostBudget);
        promise.says("the one is put into it with which the distance becomes greatest", Promise19::greatest);
        promise.says("of several the cheapest", Promise19::cheapest);
        promise.says("of several the least one", Promise19::leastOne);
        promise.says("the steps end when the distance would not increase", Promise19::ends);
        promise.says("The set is the finding.", due -> Ask.finder(due, x -> x.greedy(0, 3, 20)));
        promise.says("`from`: the node s", due -> Ask.from(due, (x, s, t) -> x.greedy(s, t, 20)));
        promise.says("`to`: the node t", due -> Ask.to(due, (x, s, t) -> x.greedy(s, t, 0)));
        promise.says("the node t", due -> Ask.waysOfFinder(due, (x, s, t) -> x.greedy(s, t, 2), FAR, 2, FAR));
        promise.says("`budget`: the greatest cost, 0 to 20", due -> Ask.range(due, 0, 20, (x, b) -> x.greedy(0, 3, b)));
        promise.says("Returns the distance under this attack", Promise19::answersDistance);
        promise.says("BAD", Promise19::badKeepsFinding);
    }

    private static void stepByStep(Due due) {
        // The best attack is {1, 2}, but neither of its edges helps alone.
        PathInterdiction x = Texts.loaded("ab1+5:3 bc1+6:3 bc1+x:1 bc9+x:2");
        Ask.finds(due, x, "no step leads to the best one", x.greedy(0, 2, 5), 7, 1);
        // The first step takes the edge 0, which leaves too little for the two others.
        PathInterdiction y = Texts.loaded("ab1+6:3 bc1+5:2 cd1+5:2");
        Ask.finds(due, y, "a step is not taken back", y.greedy(0, 3, 4), 9, 1);
        Ask.finds(due, y, "as the best attack would ask", y.interdict(0, 3, 4), 13, 6);
    }

    private static void sixteenSteps(Due due) {
        PathInterdiction x = Benches.ladder(1);
        for (int budget = 0; budget <= 20; budget++) {
            int steps = Math.min(budget, 16);
            Ask.finds(due, x, "budget " + budget, x.greedy(0, 1, budget), steps == 16 ? FAR : steps, (1 << steps) - 1);
        }
    }

    private static void atMostBudget(Due due) {
        PathInterdiction x = Texts.loaded("ab1+5:9 bc1+5:9 cd1+5:2");
        Ask.finds(due, x, "budget 20", x.greedy(0, 3, 20), 18, 7);
        Ask.finds(due, x, "budget 19", x.greedy(0, 3, 19), 13, Texts.set(0, 2));
        Ask.finds(due, x, "budget 11", x.greedy(0, 3, 11), 13, Texts.set(0, 2));
        Ask.finds(due, x, "budget 10", x.greedy(0, 3, 10), 8, Texts.set(2));
        Ask.finds(due, x, "budget 2", x.greedy(0, 3, 2), 8, Texts.set(2));
        Ask.finds(due, x, "budget 1", x.greedy(0, 3, 1), 3, 0);
        PathInterdiction y = Texts.loaded("ab1+9:8 bc1+5:3 cd1+4:1");
        Ask.finds(due, y, "what is too dear is passed over", y.greedy(0, 3, 7), 12, Texts.set(1, 2));
        Ask.finds(due, y, "in later steps too", y.greedy(0, 3, 10), 16, Texts.set(0, 2));
    }

    private static void greatest(Due due) {
        PathInterdiction x = Texts.loaded("ab1+5:1 bc1+7:9 cd1+6:2");
        Ask.finds(due, x, "the dearest one", x.greedy(0, 3, 9), 10, Texts.set(1));
        Ask.finds(due, x, "and the one after it", x.greedy(0, 3, 11), 16, Texts.set(1, 2));
        Ask.finds(due, x, "budget 10", x.greedy(0, 3, 10), 15, Texts.set(0, 1));
    }

    private static void cheapest(Due due) {
        PathInterdiction x = Texts.loaded("ab1+5:4 bc1+5:2 cd1+5:3");
        Ask.finds(due, x, "one of three", x.greedy(0, 3, 4), 8, Texts.set(1));
        Ask.finds(due, x, "two of three", x.greedy(0, 3, 6), 13, Texts.set(1, 2));
    }

    private static void leastOne(Due due) {
        PathInterdiction x = Texts.loaded("bc1+5:2 cd1+5:2 ab1+5:2");
        Ask.finds(due, x, "one of three", x.greedy(0, 3, 3), 8, 1);
        Ask.finds(due, x, "two of three", x.greedy(0, 3, 5), 13, 3);
    }

    private static void ends(Due due) {
        PathInterdiction x = Texts.loaded("ab1+9:1 ab1+9:1");
        Ask.finds(due, x, "no step helps", x.greedy(0, 1, 20), 1, 0);
        PathInterdiction y = Texts.loaded("ab1+9:1 bc1+x:1 de1+9:1");
        Ask.finds(due, y, "unreachable is the end", y.greedy(0, 2, 20), FAR, Texts.set(1));
        PathInterdiction z = Texts.loaded("ab1+1:1 bc1+9:1 bc1+9:1");
        Ask.finds(due, z, "after a step", z.greedy(0, 2, 20), 3, Texts.set(0));
        PathInterdiction w = Texts.loaded("ab1+1:1 ab2+9:1");
        Ask.finds(due, w, "an increase of 1 is one", w.greedy(0, 1, 20), 2, 1);
    }

    private static void answersDistance(Due due) {
        PathInterdiction x = Benches.fresh();
        Ask.finds(due, x, "no edges, no path", x.greedy(0, 1, 20), FAR, 0);
        Ask.finds(due, x, "no edges, s = t", x.greedy(7, 7, 20), 0, 0);
        PathInterdiction y = Texts.loaded(Benches.DIAMOND);
        Ask.finds(due, y, "s = t", y.greedy(0, 0, 20), 0, 0);
        Ask.finds(due, y, "no path", y.greedy(3, 0, 20), FAR, 0);
        Ask.finds(due, y, "a way", y.greedy(0, 3, 0), 5, 0);
    }

    private static void badKeepsFinding(Due due) {
        PathInterdiction x = Benches.fresh();
        due.is("budget 21", x.greedy(0, 1, 21), BAD);
        due.is("nothing was found", x.finding(), PathInterdiction.NONE);
        PathInterdiction y = Benches.some();
        int finding = y.finding();
        due.is("budget -1", y.greedy(0, 0, -1), BAD);
        due.is("node 8", y.greedy(0, 8, 5), BAD);
        due.is("the finding stays", y.finding(), finding);
    }
}

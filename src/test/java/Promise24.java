/** Promise 24: fortify. */
final class Promise24 {
    private static final int BAD = PathInterdiction.BAD, FAR = PathInterdiction.UNREACHABLE;

    private Promise24() {
    }

    static void tell(Section promise) {
        promise.says("Finds edges to fortify. Fortified edges cannot be in an attack.", Promise24::cannotBeAttacked);
        promise.says("Of all sets of at most a number of edges", Promise24::atMost);
        promise.says("one is found with which the greatest distance that interdict() can bring about with the other edges "
            + "is least", Promise24::least);
        promise.says("of several one with the fewest edges", Promise24::fewest);
        promise.says("of several the least number", Promise24::leastNumber);
        promise.says("The set is the finding.", due -> Ask.finder(due, x -> x.fortify(0, 3, 3, 2)));
        promise.says("`from`: the node s", due -> Ask.from(due, (x, s, t) -> x.fortify(s, t, 3, 2)));
        promise.says("`to`: the node t", due -> Ask.to(due, (x, s, t) -> x.fortify(s, t, 0, 0)));
        promise.says("the node t", due -> Ask.waysOfFinder(due, (x, s, t) -> x.fortify(s, t, 1, 1), 3, 1, FAR));
        promise.says("`budget`: the budget of the attacker, 0 to 3", due -> {
            Ask.range(due, 0, 3, (x, b) -> x.fortify(0, 3, b, 2));
            budgets(due);
        });
        promise.says("`most`: the greatest number of fortified edges, 0 to 2",
            due -> Ask.range(due, 0, 2, (x, most) -> x.fortify(0, 3, 3, most)));
        promise.says("Returns the distance then", Promise24::answersDistance);
        promise.says("BAD", Promise24::badKeepsFinding);
    }

    private static void cannotBeAttacked(Due due) {
        PathInterdiction x = Texts.loaded("ab1+x:1");
        Ask.finds(due, x, "the only edge", x.fortify(0, 1, 3, 1), 1, 1);
        PathInterdiction y = Texts.loaded("ab1+x:1 bc1+x:1");
        Ask.finds(due, y, "one of two is of no use", y.fortify(0, 2, 3, 1), FAR, 0);
        Ask.finds(due, y, "both", y.fortify(0, 2, 3, 2), 2, 3);
    }

    private static void atMost(Due due) {
        PathInterdiction x = Texts.loaded("ab1+4:1 bc1+2:1 cd1+1:1");
        Ask.finds(due, x, "none", x.fortify(0, 3, 1, 0), 7, 0);
        Ask.finds(due, x, "one", x.fortify(0, 3, 1, 1), 5, Texts.set(0));
        Ask.finds(due, x, "two", x.fortify(0, 3, 1, 2), 4, Texts.set(0, 1));
    }

    private static void least(Due due) {
        PathInterdiction x = Texts.loaded("ab1+2:1 ab1+9:1 bc1+1:1");
        Ask.finds(due, x, "a part of the best attack", x.fortify(0, 2, 2, 1), 3, Texts.set(0));
        PathInterdiction y = Texts.loaded("ab1+5:1 bc1+x:3");
        Ask.finds(due, y, "the dear one is the worse one", y.fortify(0, 2, 3, 1), 7, Texts.set(1));
        Ask.finds(due, y, "if it can be paid", y.fortify(0, 2, 2, 1), 2, Texts.set(0));
    }

    private static void fewest(Due due) {
        PathInterdiction x = Texts.loaded("ab1+5:1 ab1+5:1");
        Ask.finds(due, x, "one is enough of two", x.fortify(0, 1, 2, 2), 1, 1);
        PathInterdiction y = Texts.loaded("ab1+5:1 bc1+5:1 cd1+5:1");
        Ask.finds(due, y, "none, if two do not help", y.fortify(0, 3, 1, 2), 8, 0);
        Ask.finds(due, y, "none, if there is nothing to fear", y.fortify(0, 3, 0, 2), 3, 0);
        Ask.finds(due, y, "two, if both help", y.fortify(0, 3, 2, 2), 8, 3);
        Ask.finds(due, y, "one alone does not", y.fortify(0, 3, 2, 1), 13, 0);
    }

    private static void leastNumber(Due due) {
        PathInterdiction x = Texts.loaded("bc1+5:1 cd1+5:1 ab1+5:1");
        Ask.finds(due, x, "one of three", x.fortify(0, 3, 3, 1), 13, 1);
        Ask.finds(due, x, "two of three", x.fortify(0, 3, 3, 2), 8, 3);
        PathInterdiction y = Texts.loaded("dc2+5:2 ce3+5:1 ad0+6:2");
        Ask.finds(due, y, "{0, 2} is a less number than {1, 2}", y.fortify(0, 4, 3, 2), 10, Texts.set(0, 2));
    }

    private static void budgets(Due due) {
        for (int cost = 1; cost <= 4; cost++) {
            for (int budget = 0; budget <= 3; budget++) {
                PathInterdiction x = Texts.loaded("ab1+x:" + cost);
                boolean can = cost <= budget;
                Ask.finds(due, x, "cost " + cost + ", budget " + budget, x.fortify(0, 1, budget, 0), can ? FAR : 1, 0);
                Ask.finds(due, x, "cost " + cost + ", budget " + budget + ", one fort", x.fortify(0, 1, budget, 1), 1, can ? 1 : 0);
            }
        }
    }

    private static void answersDistance(Due due) {
        PathInterdiction x = Benches.fresh();
        Ask.finds(due, x, "no edges, no path", x.fortify(0, 1, 3, 2), FAR, 0);
        Ask.finds(due, x, "no edges, s = t", x.fortify(7, 7, 3, 2), 0, 0);
        PathInterdiction y = Benches.ladder(1);
        Ask.finds(due, y, "16 edges", y.fortify(0, 1, 3, 0), 3, 0);
        Ask.finds(due, y, "16 edges, one fort", y.fortify(0, 1, 3, 2), 0, 1);
        PathInterdiction z = new PathInterdiction();
        for (int e = 0; e < 14; e++) {
            z.addEdge(4, 5, 1, 1, 1);
        }
        z.addEdge(0, 1, 1, PathInterdiction.BLOCK, 1);
        z.addEdge(1, 2, 1, PathInterdiction.BLOCK, 1);
        Ask.finds(due, z, "the edges of the last bits", z.fortify(0, 2, 1, 2), 2, 0xc000);
    }

    private static void badKeepsFinding(Due due) {
        PathInterdiction x = Benches.fresh();
        due.is("budget 4", x.fortify(0, 1, 4, 2), BAD);
        due.is("most 3", x.fortify(0, 1, 3, 3), BAD);
        due.is("nothing was found", x.finding(), PathInterdiction.NONE);
        PathInterdiction y = Benches.some();
        int finding = y.finding();
        due.is("budget -1", y.fortify(0, 0, -1, 2), BAD);
        due.is("most -1", y.fortify(0, 0, 3, -1), BAD);
        due.is("node 8", y.fortify(8, 0, 3, 2), BAD);
        due.is("the finding stays", y.finding(), finding);
    }
}

/** Promise 18: interdict. */
final class Promise18 {
    private static final int BAD = PathInterdiction.BAD, FAR = PathInterdiction.UNREACHABLE;

    private Promise18() {
    }

    static void tell(Section promise) {
        promise.says("Finds a best attack: of all sets with at most a cost", Promise18::atMostCost);
        promise.says("one under which the distance is greatest", Promise18::greatest);
        promise.says("of several the cheapest", Promise18::cheapest);
        promise.says("of several the least number", Promise18::leastNumber);
        promise.says("The set is the finding.", due -> Ask.finder(due, x -> x.interdict(0, 3, 5)));
        promise.says("`from`: the node s", due -> Ask.from(due, (x, s, t) -> x.interdict(s, t, 5)));
        promise.says("`to`: the node t", due -> Ask.to(due, (x, s, t) -> x.interdict(s, t, 0)));
        promise.says("the node t", due -> Ask.waysOfFinder(due, (x, s, t) -> x.interdict(s, t, 1), 8, 1, FAR));
        promise.says("`budget`: the greatest cost, 0 to 5", due -> Ask.range(due, 0, 5, (x, b) -> x.interdict(0, 3, b)));
        promise.says("Returns the distance under this attack", Promise18::answersDistance);
        promise.says("BAD", Promise18::badKeepsFinding);
    }

    private static void atMostCost(Due due) {
        for (int cost = 1; cost <= 9; cost++) {
            for (int budget = 0; budget <= 5; budget++) {
                PathInterdiction x = Texts.loaded("ab7+x:" + cost);
                boolean can = cost <= budget;
                Ask.finds(due, x, "cost " + cost + ", budget " + budget, x.interdict(0, 1, budget), can ? FAR : 7, can ? 1 : 0);
            }
        }
        PathInterdiction y = Texts.loaded("ab1+1:2 bc1+1:3");
        Ask.finds(due, y, "a sum of 5", y.interdict(0, 2, 5), 4, 3);
        Ask.finds(due, y, "a budget of 4", y.interdict(0, 2, 4), 3, 1);
        PathInterdiction z = Benches.ladder(1);
        Ask.finds(due, z, "five of 16", z.interdict(0, 1, 5), 5, 31);
        Ask.finds(due, z, "none of 16", z.interdict(0, 1, 0), 0, 0);
    }

    private static void greatest(Due due) {
        PathInterdiction x = Texts.loaded(Benches.DIAMOND);
        int[] distances = {5, 6, 6, 6, 8, 9};
        int[] sets = {0, 1, 1, 1, 5, 6};
        for (int budget = 0; budget <= 5; budget++) {
            Ask.finds(due, x, "budget " + budget, x.interdict(0, 3, budget), distances[budget], sets[budget]);
        }
        PathInterdiction y = Texts.loaded("ab1+99:1 bc1+98:1 cd1+x:5");
        Ask.finds(due, y, "a block is more than any delay", y.interdict(0, 3, 5), FAR, 4);
        Ask.finds(due, y, "but may be too dear", y.interdict(0, 3, 4), 200, 3);
        PathInterdiction z = Texts.loaded("ab1+1:1 ac5+20:1 bc1+x:1");
        Ask.finds(due, z, "an edge of one way and one of another", z.interdict(0, 2, 2), 25, Texts.set(1, 2));
    }

    private static void cheapest(Due due) {
        PathInterdiction x = Texts.loaded("ab1+5:3 bc1+5:2 cd1+5:4");
        Ask.finds(due, x, "one of three", x.interdict(0, 3, 4), 8, Texts.set(1));
        Ask.finds(due, x, "two of three", x.interdict(0, 3, 5), 13, Texts.set(0, 1));
        PathInterdiction y = Texts.loaded("ab1+x:5 bc1+x:4");
        Ask.finds(due, y, "a block", y.interdict(0, 2, 5), FAR, Texts.set(1));
        PathInterdiction z = Texts.loaded("ab1+4:2 bc1+4:2 cd1+8:3");
        Ask.finds(due, z, "one edge, though two do as much", z.interdict(0, 3, 4), 11, Texts.set(2));
        Ask.finds(due, z, "nothing is added that does not help", z.interdict(3, 0, 5), FAR, 0);
    }

    private static void leastNumber(Due due) {
        PathInterdiction x = Texts.loaded("bc1+5:1 cd1+5:1 ab1+5:1");
        Ask.finds(due, x, "one of three", x.interdict(0, 3, 1), 8, 1);
        Ask.finds(due, x, "two of three", x.interdict(0, 3, 2), 13, 3);
        PathInterdiction y = Texts.loaded("ab1+1:1 bc1+3:2 cd1+3:2 de1+5:3");
        Ask.finds(due, y, "{1, 2} is a less number than {0, 3}", y.interdict(0, 4, 4), 10, 6);
        PathInterdiction z = Texts.loaded("ab1+5:3 bc1+3:2 cd1+3:2 de1+1:1");
        Ask.finds(due, z, "{1, 2} is a less number than {0, 3}, in the other order", z.interdict(0, 4, 4), 10, 6);
    }

    private static void answersDistance(Due due) {
        PathInterdiction x = Benches.fresh();
        Ask.finds(due, x, "no edges, no path", x.interdict(0, 1, 5), FAR, 0);
        Ask.finds(due, x, "no edges, s = t", x.interdict(7, 7, 5), 0, 0);
        PathInterdiction y = new PathInterdiction();
        for (int e = 0; e < 15; e++) {
            y.addEdge(2, 3, 1, 1, 1);
        }
        y.addEdge(0, 1, 99, 99, 1);
        Ask.finds(due, y, "the edge of the last bit", y.interdict(0, 1, 1), 198, 0x8000);
        PathInterdiction z = Texts.loaded("ab99+99:1bc99+99:1cd99+99:1de99+99:1ef99+99:1fg99+99:1gh99+99:1");
        Ask.finds(due, z, "five of the longest path", z.interdict(0, 7, 5), 693 + 495, 31);
    }

    private static void badKeepsFinding(Due due) {
        PathInterdiction x = Benches.fresh();
        due.is("budget 6", x.interdict(0, 1, 6), BAD);
        due.is("nothing was found", x.finding(), PathInterdiction.NONE);
        PathInterdiction y = Benches.some();
        int finding = y.finding();
        due.is("budget -1", y.interdict(0, 0, -1), BAD);
        due.is("node 8", y.interdict(0, 8, 5), BAD);
        due.is("the finding stays", y.finding(), finding);
    }
}

/** Promise 20: budgetFor. */
final class Promise20 {
    private static final int BAD = PathInterdiction.BAD, NONE = PathInterdiction.NONE;
    private static final int FAR = PathInterdiction.UNREACHABLE;

    private Promise20() {
    }

    static void tell(Section promise) {
        promise.says("Finds the least budget for an aim: the least cost", Promise20::leastCost);
        promise.says("at most 5", Promise20::atMostFive);
        promise.says("of a set under which the distance is at least the aim", Promise20::atLeastAim);
        promise.says("of several such sets of this cost the least number", Promise20::leastNumber);
        promise.says("The set is the finding.", due -> Ask.finder(due, x -> x.budgetFor(0, 3, 0)));
        promise.says("`from`: the node s", due -> Ask.from(due, (x, s, t) -> x.budgetFor(s, t, 0)));
        promise.says("`to`: the node t", due -> Ask.to(due, (x, s, t) -> x.budgetFor(s, t, FAR)));
        promise.says("the node t", due -> Ask.waysOfFinder(due, (x, s, t) -> x.budgetFor(s, t, 9), 2, 2, 0));
        promise.says("`aim`: the aim, 0 to UNREACHABLE", Promise20::aims);
        promise.says("Returns the cost", Promise20::answersCost);
        promise.says("BAD", Promise20::badKeepsFinding);
        promise.says("NONE if there is no such set (the finding stays then)", Promise20::none);
    }

    private static void leastCost(Due due) {
        PathInterdiction x = Texts.loaded(Benches.DIAMOND);
        int[] costs = {0, 0, 0, 0, 0, 0, 1, 4, 4, 5, NONE};
        int[] sets = {0, 0, 0, 0, 0, 0, 1, 5, 5, 6, 6};
        for (int aim = 0; aim < costs.length; aim++) {
            Ask.finds(due, x, "aim " + aim, x.budgetFor(0, 3, aim), costs[aim], sets[aim]);
        }
        PathInterdiction y = Texts.loaded("ab1+9:3 bc1+5:2");
        Ask.finds(due, y, "the cheaper one, though it does less", y.budgetFor(0, 2, 7), 2, Texts.set(1));
        Ask.finds(due, y, "the one that does more", y.budgetFor(0, 2, 8), 3, Texts.set(0));
        Ask.finds(due, y, "both", y.budgetFor(0, 2, 12), 5, 3);
    }

    private static void atMostFive(Due due) {
        for (int cost = 1; cost <= 9; cost++) {
            PathInterdiction x = Texts.loaded("ab1+x:" + cost);
            boolean can = cost <= 5;
            Ask.finds(due, x, "one edge of cost " + cost, x.budgetFor(0, 1, 2), can ? cost : NONE, can ? 1 : NONE);
        }
        PathInterdiction y = Texts.loaded("ab1+1:3 bc1+1:2 cd1+1:1");
        Ask.finds(due, y, "a sum of 5", y.budgetFor(0, 2, 4), 5, 3);
        Ask.finds(due, y, "a sum of 6", y.budgetFor(0, 3, 6), NONE, 3);
        PathInterdiction z = Benches.ladder(1);
        Ask.finds(due, z, "five of 16", z.budgetFor(0, 1, 5), 5, 31);
        Ask.finds(due, z, "six of 16", z.budgetFor(0, 1, 6), NONE, 31);
    }

    private static void atLeastAim(Due due) {
        PathInterdiction x = Texts.loaded("ab10+5:2");
        Ask.finds(due, x, "as it is", x.budgetFor(0, 1, 10), 0, 0);
        Ask.finds(due, x, "one more", x.budgetFor(0, 1, 11), 2, 1);
        Ask.finds(due, x, "all of it", x.budgetFor(0, 1, 15), 2, 1);
        Ask.finds(due, x, "one too many", x.budgetFor(0, 1, 16), NONE, 1);
    }

    private static void leastNumber(Due due) {
        PathInterdiction x = Texts.loaded("ab1+5:1 bc1+9:1 cd1+x:1");
        Ask.finds(due, x, "though others do more", x.budgetFor(0, 3, 8), 1, 1);
        Ask.finds(due, x, "of two", x.budgetFor(0, 3, 9), 1, 2);
        Ask.finds(due, x, "the only one", x.budgetFor(0, 3, 13), 1, 4);
        PathInterdiction y = Texts.loaded("ab1+1:1 bc1+3:2 cd1+3:2 de1+5:3");
        Ask.finds(due, y, "{1, 2} is a less number than {0, 3}", y.budgetFor(0, 4, 10), 4, 6);
    }

    private static void aims(Due due) {
        Ask.range(due, 0, FAR, (x, aim) -> x.budgetFor(0, 3, aim));
        PathInterdiction x = Texts.loaded("ab1+x:4 cd1+99:1");
        Ask.finds(due, x, "aim 9998", x.budgetFor(0, 1, FAR - 1), 4, 1);
        Ask.finds(due, x, "aim 9999", x.budgetFor(0, 1, FAR), 4, 1);
        Ask.finds(due, x, "aim 9999, a delay only", x.budgetFor(2, 3, FAR), NONE, 1);
        Ask.finds(due, x, "aim 9999, no path", x.budgetFor(1, 0, FAR), 0, 0);
        Ask.finds(due, x, "aim 0, s = t", x.budgetFor(5, 5, 0), 0, 0);
        due.is("aim 10000, no path", x.budgetFor(1, 0, FAR + 1), BAD);
        due.is("aim -1, s = t", x.budgetFor(5, 5, -1), BAD);
    }

    private static void answersCost(Due due) {
        PathInterdiction x = Texts.loaded("ab0+1:1 bc0+1:1 cd0+1:1 de0+1:1 ef0+1:1 fg0+1:1");
        for (int aim = 0; aim <= 5; aim++) {
            Ask.finds(due, x, "aim " + aim, x.budgetFor(0, 6, aim), aim, (1 << aim) - 1);
        }
        Ask.finds(due, x, "aim 6", x.budgetFor(0, 6, 6), NONE, 31);
    }

    private static void badKeepsFinding(Due due) {
        PathInterdiction x = Benches.fresh();
        due.is("aim -1", x.budgetFor(0, 1, -1), BAD);
        due.is("nothing was found", x.finding(), NONE);
        PathInterdiction y = Benches.some();
        int finding = y.finding();
        due.is("aim 10000", y.budgetFor(0, 0, 10000), BAD);
        due.is("node 8", y.budgetFor(8, 0, 0), BAD);
        due.is("the finding stays", y.finding(), finding);
    }

    private static void none(Due due) {
        PathInterdiction x = Benches.fresh();
        due.is("s = t has no distance of 1", x.budgetFor(0, 0, 1), NONE);
        due.is("nothing was found yet", x.finding(), NONE);
        PathInterdiction y = Benches.some();
        due.is("a delay does not make unreachable", y.budgetFor(0, 3, FAR), NONE);
        due.is("nor s = t", y.budgetFor(3, 3, FAR), NONE);
        Ask.sameInAll(due, "behind NONE", y, Benches.some());
        PathInterdiction z = Benches.full();
        due.is("nothing in a full graph", z.budgetFor(3, 3, 1), NONE);
        Ask.sameInAll(due, "behind NONE in a full one", z, Benches.full());
    }
}

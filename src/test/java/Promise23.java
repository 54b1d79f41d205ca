/** Promise 23: interdictResponse. */
final class Promise23 {
    private static final int BAD = PathInterdiction.BAD, FAR = PathInterdiction.UNREACHABLE;

    private Promise23() {
    }

    static void tell(Section promise) {
        promise.says("Finds a best attack against a traveler who can repair", Promise23::againstRepairs);
        promise.says("as interdict() does", Promise23::asInterdict);
        promise.says("but with the distance as respond() tells it", Promise23::asRespond);
        promise.says("The set is the finding.", due -> Ask.finder(due, x -> x.interdictResponse(0, 3, 5, 1)));
        promise.says("`from`: the node s", due -> Ask.from(due, (x, s, t) -> x.interdictResponse(s, t, 5, 3)));
        promise.says("`to`: the node t", due -> Ask.to(due, (x, s, t) -> x.interdictResponse(s, t, 0, 0)));
        promise.says("the node t", due -> Ask.waysOfFinder(due, (x, s, t) -> x.interdictResponse(s, t, 3, 1), 8, 3, FAR));
        promise.says("`budget`: the greatest cost, 0 to 5", due -> {
            Ask.range(due, 0, 5, (x, b) -> x.interdictResponse(0, 3, b, 1));
            atMostCost(due);
        });
        promise.says("`repairs`: how often, 0 to 3", due -> Ask.range(due, 0, 3, (x, r) -> x.interdictResponse(0, 3, 5, r)));
        promise.says("Returns the distance under this attack", Promise23::answersDistance);
        promise.says("BAD", Promise23::badKeepsFinding);
    }

    private static void againstRepairs(Due due) {
        PathInterdiction x = Texts.loaded(Benches.CHAIN);
        for (int budget = 0; budget <= 5; budget++) {
            for (int repairs = 0; repairs <= 3; repairs++) {
                boolean can = budget > repairs;
                Ask.finds(due, x, "budget " + budget + ", repairs " + repairs, x.interdictResponse(0, 7, budget, repairs),
                    can ? FAR : 7, can ? (1 << repairs + 1) - 1 : 0);
            }
        }
    }

    private static void asInterdict(Due due) {
        PathInterdiction x = Texts.loaded(Benches.DIAMOND);
        int[] distances = {5, 6, 6, 6, 8, 9};
        int[] sets = {0, 1, 1, 1, 5, 6};
        for (int budget = 0; budget <= 5; budget++) {
            Ask.finds(due, x, "no repairs, budget " + budget, x.interdictResponse(0, 3, budget, 0),
                distances[budget], sets[budget]);
        }
        PathInterdiction y = Texts.loaded("ab1+5:2 bc1+5:1 cd1+5:1");
        Ask.finds(due, y, "of several the cheapest", y.interdictResponse(0, 3, 3, 1), 8, Texts.set(1, 2));
        PathInterdiction z = Texts.loaded("ab1+5:1 bc1+5:1 cd1+5:1");
        Ask.finds(due, z, "of several the least number", z.interdictResponse(0, 3, 2, 1), 8, Texts.set(0, 1));
    }

    private static void asRespond(Due due) {
        PathInterdiction x = Texts.loaded("ab1+9:2 bc1+8:2 cd1+3:1 de1+2:1");
        for (int budget = 0; budget <= 5; budget++) {
            for (int repairs = 0; repairs <= 3; repairs++) {
                int distance = x.interdictResponse(0, 4, budget, repairs);
                due.is("budget " + budget + ", repairs " + repairs, distance, x.respond(0, 4, x.finding(), repairs));
            }
        }
        Ask.finds(due, x, "the greatest is repaired", x.interdictResponse(0, 4, 5, 1), 15, Texts.set(0, 1, 2));
        Ask.finds(due, x, "one that one repair makes useless", x.interdictResponse(0, 4, 1, 1), 4, 0);
        Ask.finds(due, x, "two of cost 1", x.interdictResponse(0, 4, 2, 1), 6, Texts.set(2, 3));
        PathInterdiction y = Texts.loaded("bd0+6:1 ab0+x:1");
        Ask.finds(due, y, "the last edge of the way is the first one", y.interdictResponse(0, 3, 3, 1), 6, 3);
        y.addEdge(0, 3, 3, 1, 1);
        Ask.finds(due, y, "a way that only a repair opens", y.interdictResponse(0, 3, 2, 1), 3, 3);
    }

    private static void atMostCost(Due due) {
        PathInterdiction x = Texts.loaded("ab1+x:3 bc1+x:2");
        Ask.finds(due, x, "a sum of 5", x.interdictResponse(0, 2, 5, 1), FAR, 3);
        Ask.finds(due, x, "a budget of 4", x.interdictResponse(0, 2, 4, 1), 2, 0);
        x.setEdge(1, 4, 3);
        Ask.finds(due, x, "a sum of 6", x.interdictResponse(0, 2, 5, 1), 2, 0);
    }

    private static void answersDistance(Due due) {
        PathInterdiction x = Benches.fresh();
        Ask.finds(due, x, "no edges, no path", x.interdictResponse(0, 1, 5, 3), FAR, 0);
        Ask.finds(due, x, "no edges, s = t", x.interdictResponse(7, 7, 5, 3), 0, 0);
        PathInterdiction y = Benches.ladder(1);
        Ask.finds(due, y, "one repair undoes all", y.interdictResponse(0, 1, 5, 1), 0, 0);
        Ask.finds(due, y, "no repair", y.interdictResponse(0, 1, 5, 0), 5, 31);
    }

    private static void badKeepsFinding(Due due) {
        PathInterdiction x = Benches.fresh();
        due.is("repairs 4", x.interdictResponse(0, 1, 5, 4), BAD);
        due.is("budget 6", x.interdictResponse(0, 1, 6, 3), BAD);
        due.is("nothing was found", x.finding(), PathInterdiction.NONE);
        PathInterdiction y = Benches.some();
        int finding = y.finding();
        due.is("repairs -1", y.interdictResponse(0, 0, 5, -1), BAD);
        due.is("budget -1", y.interdictResponse(0, 0, -1, 0), BAD);
        due.is("node 8", y.interdictResponse(0, 8, 5, 0), BAD);
        due.is("the finding stays", y.finding(), finding);
    }
}

/** Promise 28: expected. */
final class Promise28 {
    private static final int BAD = PathInterdiction.BAD;
    /** 12 to the power of 6. */
    private static final long ALL = 2985984;

    private Promise28() {
    }

    static void tell(Section promise) {
        promise.says("Computes what is to be expected if each edge of an attack is attacked only with the chance q / 12, "
            + "independently", due -> Ask.question(due, x -> x.expected(0, 3, 0, 6)));
        promise.says("the sum, over all subsets of the attack, of its weight times the distance under it", Promise28::sum);
        promise.says("where the weight is q to the power of the number of its edges, times (12 - q) to the power of the "
            + "number of the others", Promise28::weights);
        promise.says("Subsets under which t is unreachable are left out.", Promise28::leftOut);
        promise.says("`from`: the node s", due -> Ask.from(due, (x, s, t) -> x.expected(s, t, 0, 12)));
        promise.says("`to`: the node t", due -> Ask.to(due, (x, s, t) -> x.expected(s, t, 0, 0)));
        promise.says("the node t", due -> Ask.ways(due, (x, s, t) -> x.expected(s, t, 3, 6), 36 * 3 + 36 * 8, 0));
        promise.says("`edges`: the attack, at most 6 edges", Promise28::atMostSix);
        promise.says("`q`: the chance in twelfths, 0 to 12", due -> Ask.range(due, 0, 12, (x, q) -> x.expected(0, 3, 0, q)));
        promise.says("Returns the sum", Promise28::greatSums);
        promise.says("BAD", due -> Ask.isBad(due, "q = 13", x -> x.expected(0, 0, 0, 13)));
        promise.says("also if the set contains an edge that does not exist",
            due -> Ask.set(due, (x, set) -> x.expected(0, 3, set, 5)));
        promise.says("or more than 6 edges", Promise28::moreThanSix);
    }

    private static void sum(Due due) {
        PathInterdiction x = Texts.loaded("ab1+2:1 ab2+7:1");
        for (int q = 0; q <= 12; q++) {
            int p = 12 - q;
            due.is("both, q = " + q, x.expected(0, 1, 3, q), p * p + q * p * 2 + p * q + q * q * 3);
            due.is("the first one, q = " + q, x.expected(0, 1, 1, q), p + q * 2);
            due.is("the second one, q = " + q, x.expected(0, 1, 2, q), p + q);
            due.is("none, q = " + q, x.expected(0, 1, 0, q), 1);
        }
        x.setAttack(3);
        due.is("the present attack is not regarded", x.expected(0, 1, 0, 12), 1);
    }

    private static void weights(Due due) {
        PathInterdiction x = Texts.loaded("ab3+5:1");
        due.is("q = 0", x.expected(0, 1, 1, 0), 36);
        due.is("q = 1", x.expected(0, 1, 1, 1), 33 + 8);
        due.is("q = 11", x.expected(0, 1, 1, 11), 3 + 88);
        due.is("q = 12", x.expected(0, 1, 1, 12), 96);
        PathInterdiction y = Texts.loaded("cd9+1:1 cd9+1:1 cd9+1:1 cd9+1:1 cd9+1:1 cd9+1:1 ab1+1:1");
        for (int q = 0; q <= 12; q++) {
            due.is("all weights have the sum 12 to the power of 6, q = " + q, y.expected(0, 1, 63, q), ALL);
        }
    }

    private static void leftOut(Due due) {
        PathInterdiction x = Texts.loaded("ab5+x:1 ab7+x:1");
        for (int q = 0; q <= 12; q++) {
            int p = 12 - q;
            due.is("both blocked with q = " + q, x.expected(0, 1, 3, q), p * p * 5 + p * q * 5 + q * p * 7);
        }
        due.is("all left out", x.expected(0, 1, 3, 12), 0);
        due.is("no path", x.expected(1, 0, 3, 6), 0);
        due.is("no edges, no path", Benches.fresh().expected(0, 1, 0, 6), 0);
        due.is("no edges, s = t", Benches.fresh().expected(1, 1, 0, 6), 0);
    }

    private static void atMostSix(Due due) {
        PathInterdiction x = Texts.loaded(Benches.CHAIN);
        due.is("the first six", x.expected(0, 7, 63, 6), 46656 * 7);
        due.is("the last six", x.expected(0, 7, 126, 6), 46656 * 7);
        due.is("five", x.expected(0, 7, 31, 6), 7776 * 7);
        PathInterdiction y = Benches.ladder(1);
        y.setEdge(0, 2, 1);
        due.is("the first six of 16", y.expected(0, 1, 63, 12), ALL * 6);
        due.is("the last six of 16", y.expected(0, 1, 0xfc00, 12), ALL);
    }

    private static void greatSums(Due due) {
        PathInterdiction x = Texts.loaded("ab99+99:1bc99+99:1cd99+99:1de99+99:1ef99+99:1fg99+99:1gh99+99:1");
        due.is("the greatest sum", x.expected(0, 7, 63, 12), ALL * (7 * 99 + 6 * 99));
        due.is("no chance", x.expected(0, 7, 63, 0), ALL * 7 * 99);
        due.is("one in twelve", x.expected(0, 7, 63, 1), ALL * 7 * 99 + ALL / 12 * 6 * 99);
        due.holds("it is no int", x.expected(0, 7, 63, 12) > Integer.MAX_VALUE);
    }

    private static void moreThanSix(Due due) {
        due.is("seven of seven", Texts.loaded(Benches.CHAIN).expected(0, 7, 127, 6), BAD);
        Ask.refuses(due, "seven of 16", BAD, Benches::full, x -> x.expected(0, 1, 127, 6));
        Ask.refuses(due, "the last seven of 16", BAD, Benches::full, x -> x.expected(0, 1, 0xfe00, 6));
        Ask.refuses(due, "all 16", BAD, Benches::full, x -> x.expected(0, 1, 0xffff, 6));
        Ask.refuses(due, "seven, s = t", BAD, Benches::full, x -> x.expected(0, 0, 127, 0));
        Ask.refuses(due, "six, one of which does not exist", BAD, Benches::some, x -> x.expected(0, 1, 63, 6));
        due.holds("six of 16", Benches.full().expected(0, 1, 0xfc00, 6) != BAD);
    }
}

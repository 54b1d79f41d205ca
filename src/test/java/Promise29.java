/** Promise 29: lost. */
final class Promise29 {
    private static final int BAD = PathInterdiction.BAD;
    /** 12 to the power of 6. */
    private static final long ALL = 2985984;

    private Promise29() {
    }

    static void tell(Section promise) {
        promise.says("Returns the sum of the weights", due -> Ask.question(due, x -> x.lost(0, 3, 0, 6)));
        promise.says("of the subsets that expected() leaves out", Promise29::leftOut);
        promise.says("`from`: the node s", due -> Ask.from(due, (x, s, t) -> x.lost(s, t, 0, 12)));
        promise.says("`to`: the node t", due -> Ask.to(due, (x, s, t) -> x.lost(s, t, 0, 0)));
        promise.says("the node t", due -> Ask.ways(due, (x, s, t) -> x.lost(s, t, 3, 6), 72, 144));
        promise.says("`edges`: the attack, at most 6 edges", Promise29::atMostSix);
        promise.says("`q`: the chance in twelfths, 0 to 12", due -> Ask.range(due, 0, 12, (x, q) -> x.lost(0, 3, 0, q)));
        promise.says("Returns the sum; BAD", Promise29::sums);
        promise.says("BAD as for expected()", Promise29::bad);
    }

    private static void leftOut(Due due) {
        PathInterdiction x = Texts.loaded("ab5+x:1 ab7+x:1 bc1+1:1");
        for (int q = 0; q <= 12; q++) {
            due.is("both blocked, q = " + q, x.lost(0, 1, 3, q), q * q);
            due.is("one blocked, q = " + q, x.lost(0, 1, 1, q), 0);
            due.is("and one delayed, q = " + q, x.lost(0, 2, 7, q), q * q * 12);
            due.is("a delay, q = " + q, x.lost(1, 2, 4, q), 0);
            due.is("no path, q = " + q, x.lost(1, 0, 3, q), 144);
            due.is("s = t, q = " + q, x.lost(1, 1, 3, q), 0);
        }
    }

    private static void atMostSix(Due due) {
        PathInterdiction x = Texts.loaded(Benches.CHAIN);
        due.is("the first six", x.lost(0, 7, 63, 6), ALL - 46656);
        due.is("the last six", x.lost(0, 7, 126, 6), ALL - 46656);
        PathInterdiction y = Benches.ladder(1);
        due.is("the last six of 16", y.lost(0, 1, 0xfc00, 12), 0);
        for (int e = 15; e >= 6; e--) {
            y.removeEdge(e);
        }
        due.is("six of six", y.lost(0, 1, 63, 12), ALL);
        due.is("six of six, q = 1", y.lost(0, 1, 63, 1), 1);
    }

    private static void sums(Due due) {
        due.is("no edges, no path", Benches.fresh().lost(0, 1, 0, 0), 1);
        due.is("no edges, s = t", Benches.fresh().lost(1, 1, 0, 12), 0);
        PathInterdiction x = Texts.loaded(Benches.CHAIN);
        due.is("no path, six edges", x.lost(7, 0, 63, 5), ALL);
        due.is("no chance", x.lost(0, 7, 63, 0), 0);
        due.is("every chance", x.lost(0, 7, 63, 12), ALL);
        due.is("no attack", x.lost(0, 7, 0, 6), 0);
    }

    private static void bad(Due due) {
        Ask.set(due, (x, set) -> x.lost(0, 3, set, 5));
        Ask.isBad(due, "q = 13", x -> x.lost(0, 0, 0, 13));
        Ask.isBad(due, "q = -1", x -> x.lost(0, 0, 0, -1));
        due.is("seven of seven", Texts.loaded(Benches.CHAIN).lost(0, 7, 127, 6), BAD);
        Ask.refuses(due, "seven of 16", BAD, Benches::full, x -> x.lost(0, 1, 127, 6));
        Ask.refuses(due, "the last seven of 16", BAD, Benches::full, x -> x.lost(0, 1, 0xfe00, 6));
        Ask.refuses(due, "all 16", BAD, Benches::full, x -> x.lost(0, 1, 0xffff, 6));
        Ask.refuses(due, "six, one of which does not exist", BAD, Benches::some, x -> x.lost(0, 1, 63, 6));
        due.holds("six of 16", Benches.full().lost(0, 1, 0xfc00, 6) != BAD);
    }
}

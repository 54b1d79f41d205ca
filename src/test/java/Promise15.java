/** Promise 15: paths. */
final class Promise15 {
    private static final int GREATEST = Integer.MAX_VALUE;

    private Promise15() {
    }

    static void tell(Section promise) {
        promise.says("Counts the simple paths under the present attack.", Promise15::countsSimpleOnes);
        promise.says("Counts the simple paths", due -> Ask.question(due, x -> x.paths(0, 3, 999)));
        promise.says("under the present attack", Promise15::underAttack);
        promise.says("`from`: the node s", due -> Ask.from(due, (x, s, t) -> x.paths(s, t, 5)));
        promise.says("`to`: the node t", due -> Ask.to(due, (x, s, t) -> x.paths(s, t, 0)));
        promise.says("the node t", due -> Ask.ways(due, (x, s, t) -> x.paths(s, t, 3), 1, 0));
        promise.says("`most`: the greatest length that is counted, 0 or greater", Promise15::most);
        promise.says("Returns the number of simple paths whose length is not greater than most", Promise15::exactly);
        promise.says("BAD", due -> Ask.isBad(due, "most = -1 for the empty path", x -> x.paths(0, 0, -1)));
    }

    private static void countsSimpleOnes(Due due) {
        PathInterdiction x = Texts.loaded("ab0+1:1 ba0+1:1 bc0+1:1 cb0+1:1 ca0+1:1 ac0+1:1");
        for (int s = 0; s < 3; s++) {
            for (int t = 0; t < 3; t++) {
                due.is("from " + s + " to " + t, x.paths(s, t, GREATEST), s == t ? 1 : 2);
            }
        }
        PathInterdiction y = new PathInterdiction();
        PathInterdiction v = Texts.loaded("ab0+1:1 bc0+1:1 cb0+1:1 bd0+1:1 cd0+1:1");
        due.is("not twice by a node in between", v.paths(0, 3, GREATEST), 2);
        v.first(0, 3, 0);
        due.is("all of them, also after the first one was asked for", v.paths(0, 3, GREATEST), 2);
        due.is("no edges, the empty path", y.paths(7, 7, 0), 1);
        due.is("no edges, no path", y.paths(7, 6, GREATEST), 0);
        PathInterdiction z = Benches.ladder(1);
        due.is("16 edges side by side", z.paths(0, 1, GREATEST), 16);
        due.is("none back", z.paths(1, 0, GREATEST), 0);
        PathInterdiction w = new PathInterdiction();
        for (int e = 0; e < 16; e++) {
            w.addEdge(e / 4, e / 4 + 1, 0, 1, 1);
        }
        due.is("four steps of four edges each", w.paths(0, 4, 0), 256);
    }

    private static void underAttack(Due due) {
        PathInterdiction x = Benches.ladder(1);
        x.setAttack(0xffff);
        due.is("all blocked", x.paths(0, 1, GREATEST), 0);
        x.setAttack(0x7fff);
        due.is("all but the last one", x.paths(0, 1, GREATEST), 1);
        due.is("which has the length 15", x.paths(0, 1, 14), 0);
        x.setAttack(0);
        due.is("none", x.paths(0, 1, GREATEST), 16);
        PathInterdiction y = Texts.loaded("ab1+99:1");
        y.setAttack(1);
        due.is("a delay counts", y.paths(0, 1, 99), 0);
        due.is("to its last unit", y.paths(0, 1, 100), 1);
    }

    private static void most(Due due) {
        due.is("the greatest one", Benches.some().paths(0, 3, GREATEST), 3);
        due.is("the greatest but one", Benches.some().paths(0, 3, GREATEST - 1), 3);
        due.is("0 counts the empty path", Benches.some().paths(0, 0, 0), 1);
        due.is("0 counts edges of length 0", Texts.loaded("ab0+1:1 ab1+1:1").paths(0, 1, 0), 1);
        Ask.isBad(due, "most = -1", x -> x.paths(0, 3, -1));
        Ask.isBad(due, "the least most", x -> x.paths(0, 3, Integer.MIN_VALUE));
    }

    private static void exactly(Due due) {
        PathInterdiction x = Benches.ladder(1);
        for (int most = 0; most <= 16; most++) {
            due.is("at most " + most, x.paths(0, 1, most), Math.min(16, most + 1));
        }
        PathInterdiction y = Texts.loaded("ab99+99:1bc99+99:1cd99+99:1de99+99:1ef99+99:1fg99+99:1gh99+99:1");
        y.setAttack(127);
        due.is("the longest path, one less", y.paths(0, 7, 1385), 0);
        due.is("the longest path", y.paths(0, 7, 1386), 1);
        due.is("as far as unreachable", y.paths(0, 7, PathInterdiction.UNREACHABLE), 1);
    }
}

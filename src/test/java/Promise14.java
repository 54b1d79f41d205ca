/** Promise 14: first. */
final class Promise14 {
    private static final int BAD = PathInterdiction.BAD, NONE = PathInterdiction.NONE;

    private Promise14() {
    }

    static void tell(Section promise) {
        promise.says("Returns an edge of the first path under the present attack.", Promise14::underAttack);
        promise.says("Returns an edge of the first path", due -> Ask.question(due, x -> x.first(0, 3, 1)));
        promise.says("`from`: the node s", due -> Ask.from(due, (x, s, t) -> x.first(s, t, 0)));
        promise.says("`to`: the node t", due -> Ask.to(due, (x, s, t) -> x.first(s, t, NONE)));
        promise.says("the node t", due -> Ask.ways(due, (x, s, t) -> x.first(s, t, 1), 1, NONE));
        promise.says("`i`: the index of the edge in the path, from 0", Promise14::eachIndex);
        promise.says("NONE for the number of its edges", Promise14::number);
        promise.says("Returns the edge or the number", Promise14::lastEdge);
        promise.says("BAD if a node is out of range or i is less than NONE", Promise14::bad);
        promise.says("NONE if there is no path", Promise14::noPath);
        promise.says("or it has not so many edges", Promise14::notSoMany);
    }

    private static void path(Due due, PathInterdiction x, int s, int t, int... edges) {
        due.is("the number of edges from " + s + " to " + t, x.first(s, t, NONE), edges.length);
        for (int i = 0; i < edges.length; i++) {
            due.is("edge " + i + " from " + s + " to " + t, x.first(s, t, i), edges[i]);
        }
        due.is("no more edges from " + s + " to " + t, x.first(s, t, edges.length), NONE);
    }

    private static void underAttack(Due due) {
        PathInterdiction x = Texts.loaded(Benches.DIAMOND);
        path(due, x, 0, 3, 0, 1);
        x.setAttack(Texts.set(1));
        path(due, x, 0, 3, 2, 3);
        x.setAttack(Texts.set(1, 2));
        path(due, x, 0, 3, 4);
        x.setAttack(Texts.set(0));
        path(due, x, 0, 3, 2, 3);
        x.setEdge(0, 3, 1);
        path(due, x, 0, 3, 0, 1);
    }

    private static void eachIndex(Due due) {
        path(due, Texts.loaded(Benches.CHAIN), 0, 7, 0, 1, 2, 3, 4, 5, 6);
        path(due, Texts.loaded("gh1+1:1fg1+1:1ef1+1:1de1+1:1cd1+1:1bc1+1:1ab1+1:1"), 0, 7, 6, 5, 4, 3, 2, 1, 0);
        path(due, Texts.loaded(Benches.CHAIN), 0, 1, 0);
        path(due, Texts.loaded(Benches.CHAIN), 6, 7, 6);
    }

    private static void number(Due due) {
        PathInterdiction x = Texts.loaded(Benches.CHAIN);
        for (int t = 0; t < 8; t++) {
            due.is("from 0 to " + t, x.first(0, t, NONE), t);
        }
        for (int v = 0; v < 8; v++) {
            due.is("from " + v + " to itself", x.first(v, v, NONE), 0);
            due.is("no edges, from " + v + " to itself", Benches.fresh().first(v, v, NONE), 0);
        }
    }

    private static void lastEdge(Due due) {
        PathInterdiction x = Benches.ladder(1);
        x.setAttack(0x7fff);
        path(due, x, 0, 1, 15);
        x.setAttack(0xfffe);
        path(due, x, 0, 1, 0);
    }

    private static void bad(Due due) {
        Ask.isBad(due, "i = -2", x -> x.first(0, 0, -2));
        Ask.isBad(due, "i = -2 where there is no path", x -> x.first(3, 0, -2));
        Ask.isBad(due, "the least i", x -> x.first(0, 3, Integer.MIN_VALUE));
        Ask.isBad(due, "node -1 and i = NONE", x -> x.first(-1, -1, NONE));
        Ask.isBad(due, "node 8 and a great i", x -> x.first(8, 0, Integer.MAX_VALUE));
        due.holds("i = NONE is not less than NONE", Benches.fresh().first(0, 0, NONE) != BAD);
    }

    private static void noPath(Due due) {
        for (int i : new int[] {NONE, 0, 1, Integer.MAX_VALUE}) {
            due.is("no edges, i = " + i, Benches.fresh().first(0, 1, i), NONE);
            PathInterdiction x = Texts.loaded("ab1+x:1");
            due.is("the wrong way, i = " + i, x.first(1, 0, i), NONE);
            x.setAttack(1);
            due.is("blocked, i = " + i, x.first(0, 1, i), NONE);
        }
    }

    private static void notSoMany(Due due) {
        PathInterdiction x = Texts.loaded(Benches.CHAIN);
        due.is("the seventh edge", x.first(0, 7, 6), 6);
        for (int i : new int[] {7, 8, 9, 16, 32, 256, Integer.MAX_VALUE}) {
            due.is("index " + i + " of seven", x.first(0, 7, i), NONE);
            due.is("index " + i + " of one", x.first(0, 1, i), NONE);
        }
        due.is("index 0 of none", x.first(0, 0, 0), NONE);
        due.is("index 1 of one", x.first(0, 1, 1), NONE);
        // The trail of a longer path must not be seen behind a shorter one.
        x.first(0, 7, 6);
        due.is("index 2 of two", x.first(5, 7, 2), NONE);
    }
}

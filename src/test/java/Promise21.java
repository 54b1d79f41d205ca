/** Promise 21: blockade. */
final class Promise21 {
    private static final int BLOCK = PathInterdiction.BLOCK, NONE = PathInterdiction.NONE;

    private Promise21() {
    }

    static void tell(Section promise) {
        promise.says("Returns the cost of the cheapest blockade", Promise21::cheapest);
        promise.says("Returns the cost", due -> Ask.question(due, x -> x.blockade(1, 3)));
        promise.says("a set of edges with the delay BLOCK", Promise21::onlyBlocks);
        promise.says("under which t is unreachable", Promise21::unreachable);
        promise.says("whatever its cost", Promise21::whateverItCosts);
        promise.says("`from`: the node s", due -> Ask.from(due, PathInterdiction::blockade));
        promise.says("`to`: the node t", due -> Ask.to(due, PathInterdiction::blockade));
        promise.says("the node t", due -> Ask.ways(due, PathInterdiction::blockade, 2, 0));
        promise.says("Returns the cost; BAD", Promise21::answersZero);
        promise.says("BAD", due -> Ask.isBad(due, "blockade(-1, -1)", x -> x.blockade(-1, -1)));
        promise.says("NONE if there is none", Promise21::none);
    }

    private static void cheapest(Due due) {
        PathInterdiction x = Texts.loaded("ab1+x:3 ac1+x:4 bd1+x:5 cd1+x:1");
        due.is("one at each end", x.blockade(0, 3), 4);
        x.setEdge(3, 4, 9);
        due.is("both at the beginning", x.blockade(0, 3), 7);
        x.setEdge(0, 4, 9);
        due.is("one at each end, the other ones", x.blockade(0, 3), 9);
        x.addEdge(1, 2, 1, BLOCK, 3);
        due.is("with an edge across", x.blockade(0, 3), 12);
    }

    private static void onlyBlocks(Due due) {
        PathInterdiction x = Texts.loaded("ab1+99:1 bc1+x:9");
        due.is("only the dear one blocks", x.blockade(0, 2), 9);
        x.setEdge(1, 3, 99);
        due.is("no edge blocks", x.blockade(0, 2), NONE);
        x.setEdge(0, 3, BLOCK);
        due.is("only the cheap one blocks", x.blockade(0, 2), 1);
    }

    private static void unreachable(Due due) {
        PathInterdiction x = Texts.loaded("ab1+x:2 ba1+1:1 bc1+x:3 cb1+1:1");
        due.is("edges back are no matter", x.blockade(0, 2), 2);
        due.is("the way back has no blockade", x.blockade(2, 0), NONE);
        due.is("part of the way", x.blockade(1, 2), 3);
    }

    private static void whateverItCosts(Due due) {
        PathInterdiction x = Benches.ladder(9);
        due.is("all 16 edges", x.blockade(0, 1), 144);
        x.setAttack(0xffff);
        due.is("the present attack is not regarded", x.blockade(0, 1), 144);
        x.setEdge(15, 3, 99);
        due.is("all but one are not enough", x.blockade(0, 1), NONE);
        PathInterdiction y = Texts.loaded("ab1+x:6");
        due.is("more than a budget of 5", y.blockade(0, 1), 6);
    }

    private static void answersZero(Due due) {
        due.is("no edges", Benches.fresh().blockade(0, 7), 0);
        due.is("no path", Texts.loaded(Benches.DIAMOND).blockade(3, 0), 0);
        due.is("the least cost", Texts.loaded("ab1+x:1").blockade(0, 1), 1);
    }

    private static void none(Due due) {
        for (int v = 0; v < 8; v++) {
            due.is("s = t = " + v, Benches.fresh().blockade(v, v), NONE);
            due.is("s = t = " + v + " with edges", Texts.loaded(Benches.CHAIN).blockade(v, v), NONE);
        }
        due.is("an edge that can't be blocked", Texts.loaded("ab1+99:1").blockade(0, 1), NONE);
        due.is("beside one that can", Texts.loaded("ab1+99:1 ab1+x:1").blockade(0, 1), NONE);
    }
}

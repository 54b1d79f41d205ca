/** Promise 13: distance. */
final class Promise13 {
    private static final int FAR = PathInterdiction.UNREACHABLE;

    private Promise13() {
    }

    static void tell(Section promise) {
        promise.says("Returns the distance under the present attack.", Promise13::underAttack);
        promise.says("Returns the distance", due -> Ask.question(due, x -> x.distance(0, 3)));
        promise.says("`from`: the node s", due -> Ask.from(due, PathInterdiction::distance));
        promise.says("`to`: the node t", due -> Ask.to(due, PathInterdiction::distance));
        promise.says("the node t", due -> Ask.ways(due, PathInterdiction::distance, 3, FAR));
        promise.says("Returns the distance, perhaps UNREACHABLE", Promise13::extremes);
        promise.says("BAD", due -> Ask.isBad(due, "distance(-1, 8)", x -> x.distance(-1, 8)));
    }

    private static void underAttack(Due due) {
        PathInterdiction x = Texts.loaded(Benches.DIAMOND);
        int[][] want = {{0, 5}, {1, 6}, {2, 6}, {3, 6}, {4, 5}, {5, 8}, {6, 9}, {16, 5}, {22, 10}, {30, 15}, {31, 15}};
        for (int[] row : want) {
            x.setAttack(row[0]);
            due.is("under " + row[0], x.distance(0, 3), row[1]);
        }
    }

    private static void extremes(Due due) {
        PathInterdiction x = Texts.loaded("ab99+99:1bc99+99:1cd99+99:1de99+99:1ef99+99:1fg99+99:1gh99+99:1");
        due.is("seven edges", x.distance(0, 7), 693);
        x.setAttack(127);
        due.is("the greatest distance", x.distance(0, 7), 1386);
        due.is("not back", x.distance(7, 0), FAR);
        for (int v = 0; v < 8; v++) {
            due.is("from " + v + " to itself", x.distance(v, v), 0);
            due.is("no edges, from " + v + " to itself", Benches.fresh().distance(v, v), 0);
            due.is("no edges", Benches.fresh().distance(v, 7 - v), FAR);
        }
        PathInterdiction y = Texts.loaded("ab0+x:1 bc0+1:1 cb0+1:1 ba0+1:1");
        due.is("the least distance of two nodes", y.distance(0, 2), 0);
        y.setAttack(1);
        due.is("a blocked edge of length 0", y.distance(0, 2), FAR);
        // Edges in the order that makes a search in rounds need the most of them.
        PathInterdiction z = Texts.loaded("gh1+1:1fg1+1:1ef1+1:1de1+1:1cd1+1:1bc1+1:1ab1+1:1");
        due.is("the edges in reverse", z.distance(0, 7), 7);
    }
}

/** Promise 16: pathLength. */
final class Promise16 {
    private static final int BAD = PathInterdiction.BAD, NONE = PathInterdiction.NONE;

    private Promise16() {
    }

    static void tell(Section promise) {
        promise.says("Returns the length of one of the simple paths under the present attack", Promise16::underAttack);
        promise.says("Returns the length of one of the simple paths", due -> Ask.question(due, x -> x.pathLength(0, 3, 1)));
        promise.says("ordered by their lengths, and those of equal lengths by their sequences of edges", Promise16::ordered);
        promise.says("`from`: the node s", due -> Ask.from(due, (x, s, t) -> x.pathLength(s, t, 0)));
        promise.says("`to`: the node t", due -> Ask.to(due, (x, s, t) -> x.pathLength(s, t, 99)));
        promise.says("the node t", due -> Ask.ways(due, (x, s, t) -> x.pathLength(s, t, 0), 3, NONE));
        promise.says("`k`: the index of the path, from 0 to 99", due -> Ask.range(due, 0, 99, (x, k) -> x.pathLength(0, 3, k)));
        promise.says("Returns the length; BAD", Promise16::hundredPaths);
        promise.says("BAD", Promise16::badComesFirst);
        promise.says("NONE if there are not so many", Promise16::notSoMany);
    }

    private static void underAttack(Due due) {
        PathInterdiction x = Texts.loaded(Benches.DIAMOND);
        int[][] want = {{0, 5, 6, 9}, {1, 6, 8, 9}, {2, 6, 9, NONE}, {16, 5, 6, 18}, {30, 15, 18, NONE}, {6, 9, 10, NONE}};
        for (int[] row : want) {
            x.setAttack(row[0]);
            for (int k = 0; k < 3; k++) {
                due.is("under " + row[0] + ": path " + k, x.pathLength(0, 3, k), row[k + 1]);
            }
        }
    }

    private static void ordered(Due due) {
        PathInterdiction x = new PathInterdiction();
        int[] lengths = {9, 3, 99, 0, 3, 9, 1, 0, 50, 2, 98, 97, 5, 5, 5, 4};
        int[] sorted = {0, 0, 1, 2, 3, 3, 4, 5, 5, 5, 9, 9, 50, 97, 98, 99};
        for (int length : lengths) {
            x.addEdge(0, 1, length, 1, 1);
        }
        for (int k = 0; k < 16; k++) {
            due.is("path " + k, x.pathLength(0, 1, k), sorted[k]);
        }
        due.is("path 16", x.pathLength(0, 1, 16), NONE);
    }

    /** Steps from node to node, of some edges each, all of length 1 but the last edge of each step. */
    private static PathInterdiction steps(int... edges) {
        PathInterdiction x = new PathInterdiction();
        for (int v = 0; v < edges.length; v++) {
            for (int i = 1; i <= edges[v]; i++) {
                x.addEdge(v, v + 1, i == edges[v] ? 2 : 1, 1, 1);
            }
        }
        return x;
    }

    private static void hundredPaths(Due due) {
        PathInterdiction hundred = steps(4, 5, 5);
        due.is("100 paths", hundred.paths(0, 3, 99), 100);
        // 3 * 4 * 4 of length 3, 40 of length 4, 11 of length 5, 1 of length 6.
        int[] ranks = {0, 47, 48, 87, 88, 98, 99};
        int[] lengths = {3, 3, 4, 4, 5, 5, 6};
        for (int i = 0; i < ranks.length; i++) {
            due.is("path " + ranks[i] + " of 100", hundred.pathLength(0, 3, ranks[i]), lengths[i]);
        }
        PathInterdiction more = steps(4, 5, 5);
        more.addEdge(0, 3, 0, 1, 1);
        due.is("101 paths", more.paths(0, 3, 99), 101);
        due.is("the first one of 101", more.pathLength(0, 3, 0), 0);
        due.is("path 98 of 101", more.pathLength(0, 3, 98), 5);
        due.is("path 99 of 101", more.pathLength(0, 3, 99), 5);
        PathInterdiction most = steps(4, 4, 4, 4);
        due.is("256 paths", most.paths(0, 4, 99), 256);
        due.is("path 80 of 256", most.pathLength(0, 4, 80), 4);
        due.is("path 81 of 256", most.pathLength(0, 4, 81), 5);
        due.is("path 99 of 256", most.pathLength(0, 4, 99), 5);
    }

    private static void badComesFirst(Due due) {
        Ask.isBad(due, "k = 100, where there are not so many", x -> x.pathLength(0, 0, 100));
        Ask.isBad(due, "k = -1", x -> x.pathLength(0, 0, -1));
        due.is("k = 100 of 256", steps(4, 4, 4, 4).pathLength(0, 4, 100), BAD);
        due.is("k = 255 of 256", steps(4, 4, 4, 4).pathLength(0, 4, 255), BAD);
    }

    private static void notSoMany(Due due) {
        PathInterdiction x = steps(3, 2, 4, 4);
        x.addEdge(1, 4, 99, 1, 1);
        due.is("99 paths", x.paths(0, 4, 999), 99);
        due.is("path 98 of 99", x.pathLength(0, 4, 98), 101);
        due.is("path 99 of 99", x.pathLength(0, 4, 99), NONE);
        due.is("the empty path", Benches.fresh().pathLength(7, 7, 0), 0);
        due.is("is the only one", Benches.fresh().pathLength(7, 7, 1), NONE);
        due.is("path 0 of none", Benches.fresh().pathLength(0, 7, 0), NONE);
        due.is("path 99 of none", Benches.fresh().pathLength(0, 7, 99), NONE);
        PathInterdiction z = Texts.loaded(Benches.DIAMOND);
        z.first(0, 3, 0);
        due.is("path 2 of three, also after the first one was asked for", z.pathLength(0, 3, 2), 9);
        // Lengths of an earlier call must not be seen.
        PathInterdiction y = Texts.loaded(Benches.DIAMOND);
        y.pathLength(0, 3, 2);
        due.is("path 1 of one", y.pathLength(0, 1, 1), NONE);
        due.is("path 0 of none then", y.pathLength(3, 0, 0), NONE);
    }
}

/** Promise 3: removeEdge. */
final class Promise03 {
    private static final int BAD = PathInterdiction.BAD;

    private Promise03() {
    }

    static void tell(Section promise) {
        promise.says("Removes an edge", Promise03::removesTheOnlyOne);
        promise.says("the numbers of those after it decrease by 1", Promise03::renumbers);
        promise.says("also in the present attack", Promise03::renumbersAttack);
        promise.says("This is a change.", due -> {
            Ask.change(due, x -> x.removeEdge(0), Benches::some, Benches::full);
            Ask.change(due, x -> x.removeEdge(x.count(0) - 1), Benches::some, Benches::full);
        });
        promise.says("`edge`: the edge", due -> Ask.edge(due, PathInterdiction::removeEdge));
        promise.says("Returns the number of edges that are left", Promise03::answersWhatIsLeft);
        promise.says("BAD", Promise03::badWithoutEdges);
    }

    private static void removesTheOnlyOne(Due due) {
        PathInterdiction x = Texts.loaded("ab5+3:2");
        x.setAttack(1);
        due.is("removeEdge(0)", x.removeEdge(0), 0);
        for (int what : new int[] {0, 1, 2, 5, 6}) {
            due.is("count(" + what + ")", x.count(what), 0);
        }
        due.is("edge(0, 0)", x.edge(0, 0), BAD);
        due.is("distance", x.distance(0, 1), PathInterdiction.UNREACHABLE);
        due.is("a new edge", x.addEdge(0, 1, 1, 1, 1), 0);
        due.is("is not attacked", x.edge(0, 5), 0);
    }

    /** Each edge of the full graph, the first and the last one too. */
    private static void renumbers(Due due) {
        int[][] whole = Benches.table(Benches.full());
        for (int gone = 0; gone < 16; gone++) {
            PathInterdiction x = Benches.full();
            x.removeEdge(gone);
            for (int e = 0; e < 15; e++) {
                for (int what = 0; what <= 4; what++) {
                    due.is("without " + gone + ": edge(" + e + ", " + what + ")", x.edge(e, what),
                        whole[e < gone ? e : e + 1][what]);
                }
            }
            due.is("without " + gone + ": edge 15", x.edge(15, 0), BAD);
        }
    }

    private static void renumbersAttack(Due due) {
        for (int gone = 0; gone < 16; gone++) {
            for (int set : new int[] {0, 0xffff, Benches.FULL_ATTACK, 0x5a5a, 1, 0x8000, 1 << gone, 0xffff & ~(1 << gone)}) {
                PathInterdiction x = Benches.full();
                x.setAttack(set);
                x.removeEdge(gone);
                int attacked = 0;
                for (int e = 0; e < 15; e++) {
                    int old = e < gone ? e : e + 1;
                    due.is("set " + set + " without " + gone + ": edge(" + e + ", 5)", x.edge(e, 5), set >> old & 1);
                    attacked += x.edge(e, 5);
                }
                due.is("set " + set + " without " + gone + ": attacked", x.count(1), attacked);
            }
        }
    }

    private static void answersWhatIsLeft(Due due) {
        PathInterdiction x = Benches.full();
        for (int left = 15; left >= 0; left--) {
            due.is("edges left", x.removeEdge(left / 2), left);
            due.is("count(0)", x.count(0), left);
        }
        due.is("no edge is left", x.removeEdge(0), BAD);
    }

    private static void badWithoutEdges(Due due) {
        Ask.refuses(due, "edge 0 of none", BAD, Benches::fresh, x -> x.removeEdge(0));
        Ask.refuses(due, "edge 5 of five", BAD, Benches::some, x -> x.removeEdge(5));
        Ask.refuses(due, "edge 16 of 16", BAD, Benches::full, x -> x.removeEdge(16));
        Ask.isBad(due, "edge -1", x -> x.removeEdge(-1));
    }
}

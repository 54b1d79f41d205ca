/** Promise 4: setEdge. */
final class Promise04 {
    private static final int BAD = PathInterdiction.BAD, BLOCK = PathInterdiction.BLOCK;

    private Promise04() {
    }

    static void tell(Section promise) {
        promise.says("Sets a property of an edge.", Promise04::setsOnlyThis);
        promise.says("This is a change.", Promise04::isChange);
        promise.says("`edge`: the edge", due -> Ask.edge(due, (x, e) -> x.setEdge(e, 2, 7)));
        promise.says("`what`: 2 for its length, 3 for its delay, 4 for its cost",
            due -> Ask.range(due, 2, 4, (x, what) -> x.setEdge(0, what, 1)));
        promise.says("2 for its length, 3 for its delay, 4 for its cost", Promise04::eachWhat);
        promise.says("`value`: the new value, in the same range as for addEdge()", Promise04::ranges);
        promise.says("Returns the value that it had", Promise04::answersOldValue);
        promise.says("BAD", Promise04::badWithoutEdges);
    }

    private static void setsOnlyThis(Due due) {
        int[][] whole = Benches.table(Benches.full());
        for (int set = 0; set < 16; set += 5) {
            PathInterdiction x = Benches.full();
            x.setEdge(set, 2, 98);
            x.setEdge(set, 3, 97);
            x.setEdge(set, 4, 6);
            int[] now = {whole[set][0], whole[set][1], 98, 97, 6, whole[set][5]};
            for (int e = 0; e < 16; e++) {
                for (int what = 0; what <= 5; what++) {
                    due.is("after setEdge(" + set + ", ..): edge(" + e + ", " + what + ")", x.edge(e, what),
                        e == set ? now[what] : whole[e][what]);
                }
            }
        }
    }

    private static void isChange(Due due) {
        for (int what = 2; what <= 4; what++) {
            int w = what;
            Ask.change(due, x -> x.setEdge(4, w, 8), Benches::some, Benches::full);
            Ask.change(due, x -> x.setEdge(4, w, x.edge(4, w)), Benches::some, Benches::full);
        }
    }

    private static void eachWhat(Due due) {
        PathInterdiction x = Texts.loaded("ab5+6:7");
        due.is("2 is the length", x.setEdge(0, 2, 9), 5);
        due.is("it counts", x.distance(0, 1), 9);
        due.is("3 is the delay", x.setEdge(0, 3, 8), 6);
        due.is("4 is the cost", x.setEdge(0, 4, 1), 7);
        due.is("the cost counts", x.setAttack(1), 1);
        due.is("the delay counts", x.distance(0, 1), 17);
        for (int what : new int[] {-1, 0, 1, 5, 6}) {
            Ask.isBad(due, "what = " + what, y -> y.setEdge(0, what, 1));
            Ask.isBad(due, "what = " + what + ", the value it has", y -> y.setEdge(0, what, 0));
        }
    }

    private static void ranges(Due due) {
        Ask.range(due, 0, 99, (x, v) -> x.setEdge(0, 2, v));
        Ask.range(due, 1, BLOCK, (x, v) -> x.setEdge(0, 3, v));
        Ask.range(due, 1, 9, (x, v) -> x.setEdge(0, 4, v));
        int[][] ends = {{2, 0}, {2, 99}, {3, 1}, {3, 99}, {3, BLOCK}, {4, 1}, {4, 9}};
        for (int[] end : ends) {
            PathInterdiction x = Benches.full();
            x.setEdge(15, end[0], end[1]);
            due.is("edge(15, " + end[0] + ")", x.edge(15, end[0]), end[1]);
        }
    }

    private static void answersOldValue(Due due) {
        PathInterdiction x = Texts.loaded("ab0+1:1");
        int[][] calls = {
            {2, 99, 0}, {2, 0, 99}, {2, 0, 0}, {3, BLOCK, 1}, {3, 99, BLOCK}, {3, 1, 99}, {4, 9, 1}, {4, 1, 9}, {4, 1, 1}};
        for (int[] call : calls) {
            due.is("setEdge(0, " + call[0] + ", " + call[1] + ")", x.setEdge(0, call[0], call[1]), call[2]);
        }
    }

    private static void badWithoutEdges(Due due) {
        Ask.refuses(due, "edge 0 of none", BAD, Benches::fresh, x -> x.setEdge(0, 2, 1));
        Ask.refuses(due, "edge 5 of five", BAD, Benches::some, x -> x.setEdge(5, 3, 1));
        Ask.refuses(due, "edge 16 of 16", BAD, Benches::full, x -> x.setEdge(16, 4, 1));
        Ask.isBad(due, "all wrong", x -> x.setEdge(-1, -1, -1));
    }
}

/** Promise 2: addEdge. */
final class Promise02 {
    private static final int BAD = PathInterdiction.BAD, FULL = PathInterdiction.FULL, BLOCK = PathInterdiction.BLOCK;

    private Promise02() {
    }

    static void tell(Section promise) {
        promise.says("Adds an edge.", Promise02::adds);
        promise.says("This is a change.", due -> Ask.change(due, x -> x.addEdge(7, 0, 5, 5, 5),
            Benches::fresh, Benches::some, Promise02::almostFull));
        promise.says("`from`: the node from which it leads", due -> Ask.range(due, 0, 7, (x, v) -> x.addEdge(v, 4, 1, 1, 1)));
        promise.says("`to`: the node to which it leads", due -> Ask.range(due, 0, 7, (x, v) -> x.addEdge(4, v, 1, 1, 1)));
        promise.says("another one", Promise02::leadsToAnotherOne);
        promise.says("`length`: its length, 0 to 99", due -> Ask.range(due, 0, 99, (x, v) -> x.addEdge(0, 1, v, 1, 1)));
        promise.says("`delay`: its delay, 1 to 99, or BLOCK", Promise02::delay);
        promise.says("`cost`: its cost, 1 to 9", due -> Ask.range(due, 1, 9, (x, v) -> x.addEdge(0, 1, 1, 1, v)));
        promise.says("Returns its number", Promise02::answersNumber);
        promise.says("BAD", Promise02::badInEachPlace);
        promise.says("FULL if there are 16 edges", Promise02::fullAtSixteen);
        promise.says("BAD; FULL", Promise02::badComesFirst);
    }

    /** 15 edges, and no room in the history. */
    private static PathInterdiction almostFull() {
        PathInterdiction x = Benches.full();
        x.removeEdge(15);
        return x;
    }

    private static void adds(Due due) {
        int[][] edges = {
            {0, 7, 0, 1, 1}, {7, 0, 99, 99, 9}, {3, 4, 0, BLOCK, 9}, {4, 3, 99, 1, 1}, {0, 7, 0, 1, 1}, {6, 5, 50, 50, 5}};
        PathInterdiction x = new PathInterdiction();
        for (int[] e : edges) {
            x.addEdge(e[0], e[1], e[2], e[3], e[4]);
        }
        due.is("the edges", x.count(0), edges.length);
        for (int e = 0; e < edges.length; e++) {
            for (int what = 0; what <= 4; what++) {
                due.is("edge(" + e + ", " + what + ")", x.edge(e, what), edges[e][what]);
            }
            due.is("edge " + e + " is not attacked", x.edge(e, 5), 0);
        }
    }

    private static void leadsToAnotherOne(Due due) {
        for (int node = 0; node < 8; node++) {
            int v = node;
            Ask.isBad(due, "an edge from " + v + " to itself", x -> x.addEdge(v, v, 1, 1, 1));
        }
        for (int from = 0; from < 8; from++) {
            for (int to = 0; to < 8; to++) {
                due.is("an edge from " + from + " to " + to, new PathInterdiction().addEdge(from, to, 1, 1, 1),
                    from == to ? BAD : 0);
            }
        }
    }

    private static void delay(Due due) {
        Ask.range(due, 1, BLOCK, (x, v) -> x.addEdge(0, 1, 1, v, 1));
        PathInterdiction x = new PathInterdiction();
        x.addEdge(0, 1, 99, 99, 1);
        x.addEdge(1, 2, 99, BLOCK, 1);
        x.setAttack(3);
        due.is("a delay of 99", x.distance(0, 1), 198);
        due.is("the delay BLOCK is no delay of 100", x.distance(1, 2), PathInterdiction.UNREACHABLE);
    }

    private static void answersNumber(Due due) {
        PathInterdiction x = new PathInterdiction();
        for (int e = 0; e < 16; e++) {
            due.is("edge " + e, x.addEdge(0, 1, e, 1, 1), e);
            due.is("the edges then", x.count(0), e + 1);
        }
        PathInterdiction y = Benches.full();
        y.removeEdge(0);
        due.is("the last number again", y.addEdge(0, 1, 77, 1, 1), 15);
        due.is("it has the last number", y.edge(15, 2), 77);
        due.is("it is not attacked, though 15 was", y.edge(15, 5), 0);
    }

    private static void badInEachPlace(Due due) {
        int[] below = {-1, -1, -1, 0, 0};
        int[] above = {8, 8, 100, 101, 10};
        for (int place = 0; place < 5; place++) {
            int[] low = {0, 1, 1, 1, 1};
            int[] high = {0, 1, 1, 1, 1};
            low[place] = below[place];
            high[place] = above[place];
            Ask.isBad(due, "too small in place " + place, x -> x.addEdge(low[0], low[1], low[2], low[3], low[4]));
            Ask.isBad(due, "too great in place " + place, x -> x.addEdge(high[0], high[1], high[2], high[3], high[4]));
        }
    }

    private static void fullAtSixteen(Due due) {
        due.is("the 16th edge", almostFull().addEdge(0, 1, 1, 1, 1), 15);
        Ask.refuses(due, "the 17th edge", FULL, Benches::full, x -> x.addEdge(0, 1, 1, 1, 1));
        PathInterdiction x = Benches.full();
        x.addEdge(0, 1, 1, 1, 1);
        due.is("a removal", x.removeEdge(7), 15);
        due.is("room for one", x.addEdge(0, 1, 1, 1, 1), 15);
        due.is("and no other", x.addEdge(0, 1, 1, 1, 1), FULL);
        due.is("clear()", x.clear(), 16);
        due.is("room again", x.addEdge(0, 1, 1, 1, 1), 0);
    }

    private static void badComesFirst(Due due) {
        Ask.refuses(due, "a wrong node", BAD, Benches::full, x -> x.addEdge(8, 1, 1, 1, 1));
        Ask.refuses(due, "the same node", BAD, Benches::full, x -> x.addEdge(1, 1, 1, 1, 1));
        Ask.refuses(due, "a wrong length", BAD, Benches::full, x -> x.addEdge(0, 1, 100, 1, 1));
        Ask.refuses(due, "a wrong delay", BAD, Benches::full, x -> x.addEdge(0, 1, 1, 0, 1));
        Ask.refuses(due, "a wrong cost", BAD, Benches::full, x -> x.addEdge(0, 1, 1, 1, 10));
    }
}

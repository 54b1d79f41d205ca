/** Promise 31: count. */
final class Promise31 {
    private static final int BLOCK = PathInterdiction.BLOCK;

    private Promise31() {
    }

    static void tell(Section promise) {
        promise.says("Returns a number.", due -> {
            for (int what = 0; what <= 6; what++) {
                int w = what;
                Ask.question(due, x -> x.count(w));
            }
        });
        promise.says("`what`: 0 for the number of edges", due -> zeroTo(due, 0, 16));
        promise.says("1 for that of the edges in the present attack", due -> zeroTo(due, 1, 16));
        promise.says("2 for the cost of the present attack", due -> zeroTo(due, 2, 144));
        promise.says("3 for the number of states in the history", due -> zeroTo(due, 3, 12));
        promise.says("4 for the length of the text", due -> zeroTo(due, 4, 110));
        promise.says("5 for the sum of the lengths of all edges under no attack", Promise31::lengths);
        promise.says("6 for the number of pairs of different nodes s and t such that t is reachable from s under the "
            + "present attack", Promise31::pairs);
        promise.says("Returns the number", Promise31::inBetween);
        promise.says("BAD", due -> Ask.range(due, 0, 6, PathInterdiction::count));
    }

    /** The least and the greatest number that there can be. */
    private static void zeroTo(Due due, int what, int most) {
        due.is("of a new object", Benches.fresh().count(what), 0);
        due.is("of a full one", greatest().count(what), most);
    }

    /** 16 of the dearest and longest edges, all attacked; 12 states; 110 bytes. */
    private static PathInterdiction greatest() {
        PathInterdiction x = new PathInterdiction();
        for (int e = 0; e < 16; e++) {
            x.addEdge(e % 8, (e + 1) % 8, 99, 99, 9);
        }
        x.setAttack(0xffff);
        Texts.typeInto(x, Benches.FULL_TEXT);
        return x;
    }

    private static void lengths(Due due) {
        due.is("of a new object", Benches.fresh().count(5), 0);
        due.is("of a full one, though all are attacked", greatest().count(5), 1584);
        PathInterdiction x = Texts.loaded("ab0+x:1 ab0+1:1");
        due.is("of edges of length 0", x.count(5), 0);
        x.setAttack(3);
        due.is("under an attack", x.count(5), 0);
        x.setEdge(0, 2, 7);
        due.is("a blocked edge counts", x.count(5), 7);
    }

    private static void pairs(Due due) {
        due.is("of a new object", Benches.fresh().count(6), 0);
        PathInterdiction x = greatest();
        due.is("all pairs", x.count(6), 56);
        for (int e = 0; e < 16; e++) {
            x.setEdge(e, 3, BLOCK);
        }
        due.is("all blocked", x.count(6), 0);
        x.setAttack(0x8080);
        due.is("the edges back to the first node blocked", x.count(6), 28);
        x.setAttack(0x8000);
        due.is("one of two edges blocked", x.count(6), 56);
        due.is("one edge", Texts.loaded("ha1+1:1").count(6), 1);
        due.is("two edges between the same nodes", Texts.loaded("ha1+1:1 ha1+1:1").count(6), 1);
        due.is("there and back", Texts.loaded("ha1+1:1 ah1+1:1").count(6), 2);
        due.is("two steps", Texts.loaded("ab1+1:1 bc1+1:1").count(6), 3);
    }

    private static void inBetween(Due due) {
        int[] some = {5, 2, 4, 2, 4, 20, 5};
        for (int what = 0; what <= 6; what++) {
            due.is("count(" + what + ")", Benches.some().count(what), some[what]);
        }
    }
}

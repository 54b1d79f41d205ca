/** Promise 5: edge. */
final class Promise05 {
    private static final int BAD = PathInterdiction.BAD;

    private Promise05() {
    }

    static void tell(Section promise) {
        promise.says("Returns a property of an edge.", due -> Ask.question(due, x -> x.edge(4, 3)));
        promise.says("`edge`: the edge", due -> Ask.edge(due, (x, e) -> x.edge(e, 0)));
        promise.says("`what`: 0 for the node from which it leads, 1 for the node to which it leads, 2 for its length, "
            + "3 for its delay, 4 for its cost,", Promise05::eachWhat);
        promise.says("5 for 1 if it is in the present attack, else 0", Promise05::attacked);
        promise.says("Returns the property", Promise05::extremes);
        promise.says("BAD", Promise05::bad);
    }

    private static void eachWhat(Due due) {
        PathInterdiction x = Texts.loaded("gb12+34:5");
        int[] want = {6, 1, 12, 34, 5, 0};
        for (int what = 0; what <= 5; what++) {
            due.is("edge(0, " + what + ")", x.edge(0, what), want[what]);
        }
        Ask.range(due, 0, 5, (y, what) -> y.edge(0, what));
    }

    private static void attacked(Due due) {
        PathInterdiction x = Benches.full();
        for (int e = 0; e < 16; e++) {
            due.is("edge(" + e + ", 5)", x.edge(e, 5), Benches.FULL_ATTACK >> e & 1);
        }
        x.setAttack(0x8000);
        due.is("the last one alone", x.edge(15, 5), 1);
        due.is("the first one not", x.edge(0, 5), 0);
        x.setAttack(0);
        due.is("the last one not", x.edge(15, 5), 0);
    }

    private static void extremes(Due due) {
        PathInterdiction x = Texts.loaded("ah0+1:1 ha99+x:9");
        int[][] want = {{0, 7, 0, 1, 1, 0}, {7, 0, 99, PathInterdiction.BLOCK, 9, 1}};
        x.setAttack(2);
        for (int e = 0; e < 2; e++) {
            for (int what = 0; what <= 5; what++) {
                due.is("edge(" + e + ", " + what + ")", x.edge(e, what), want[e][what]);
            }
        }
    }

    private static void bad(Due due) {
        for (int what = 0; what <= 5; what++) {
            int w = what;
            Ask.refuses(due, "edge(0, " + w + ") of none", BAD, Benches::fresh, x -> x.edge(0, w));
            Ask.refuses(due, "edge(5, " + w + ") of five", BAD, Benches::some, x -> x.edge(5, w));
            Ask.refuses(due, "edge(16, " + w + ") of 16", BAD, Benches::full, x -> x.edge(16, w));
            Ask.isBad(due, "edge(-1, " + w + ")", x -> x.edge(-1, w));
        }
        Ask.isBad(due, "edge(4, -1)", x -> x.edge(4, -1));
        Ask.isBad(due, "edge(4, 6)", x -> x.edge(4, 6));
    }
}

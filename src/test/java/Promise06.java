/** Promise 6: clear. */
final class Promise06 {
    private Promise06() {
    }

    static void tell(Section promise) {
        promise.says("Removes all edges.", Promise06::removesAll);
        promise.says("This is a change.", due -> {
            Ask.change(due, PathInterdiction::clear, Benches::fresh, Benches::some, Benches::full);
            isChangeOfNothing(due);
        });
        promise.says("Returns how many there were.", Promise06::answersHowMany);
    }

    private static void removesAll(Due due) {
        PathInterdiction x = Benches.full();
        int finding = x.finding();
        x.clear();
        for (int what : new int[] {0, 1, 2, 5, 6}) {
            due.is("count(" + what + ")", x.count(what), 0);
        }
        for (int e = 0; e < 16; e++) {
            due.is("edge(" + e + ", 0)", x.edge(e, 0), PathInterdiction.BAD);
        }
        due.is("the text stays", x.count(4), 110);
        due.is("the finding stays", x.finding(), finding);
        due.is("a new edge", x.addEdge(0, 1, 1, 1, 1), 0);
        due.is("is not attacked", x.edge(0, 5), 0);
    }

    private static void isChangeOfNothing(Due due) {
        PathInterdiction x = new PathInterdiction();
        x.clear();
        x.clear();
        due.is("two states", x.count(3), 2);
    }

    private static void answersHowMany(Due due) {
        due.is("of none", Benches.fresh().clear(), 0);
        due.is("of one", Texts.loaded("ab1+1:1").clear(), 1);
        due.is("of five", Benches.some().clear(), 5);
        PathInterdiction x = Benches.full();
        due.is("of 16", x.clear(), 16);
        due.is("of none then", x.clear(), 0);
    }
}

/** Promise 30: undo. */
final class Promise30 {
    private static final int STATE = PathInterdiction.STATE;

    private Promise30() {
    }

    static void tell(Section promise) {
        promise.says("Restores the latest state of the history.", Promise30::restores);
        promise.says("the latest state", Promise30::latestFirst);
        promise.says("Returns how many states are left in the history", Promise30::answersHowMany);
        promise.says("STATE if there is none", Promise30::none);
    }

    private static void restores(Due due) {
        PathInterdiction x = Benches.full();
        x.undo();
        due.is("the edges", x.count(0), 16);
        for (int e = 0; e < 16; e++) {
            due.is("edge(" + e + ", 5)", x.edge(e, 5), e == 15 ? 0 : Benches.FULL_ATTACK >> e & 1);
        }
        x.undo();
        due.is("the 16th edge is gone", x.count(0), 15);
        due.is("and there is room for it", x.addEdge(7, 1, 99, 1, 7), 15);
        x.undo();
        x.undo();
        due.is("no attack", x.count(1), 0);
        x.undo();
        due.is("the 15th edge is gone", x.count(0), 14);
        due.is("edge 14 does not exist", x.edge(14, 0), PathInterdiction.BAD);
        due.is("the text stays", x.count(4), 110);
        PathInterdiction y = Benches.some();
        int finding = y.finding();
        y.undo();
        y.undo();
        due.is("the finding stays", y.finding(), finding);
        due.is("no edges", y.count(0), 0);
    }

    private static void latestFirst(Due due) {
        PathInterdiction x = Texts.loaded("ab1+1:1");
        for (int length = 2; length <= 9; length++) {
            x.setEdge(0, 2, length);
        }
        for (int length = 8; length >= 1; length--) {
            x.undo();
            due.is("the length", x.edge(0, 2), length);
        }
        x.setEdge(0, 2, 50);
        x.setEdge(0, 2, 60);
        x.undo();
        due.is("the way forward is new", x.edge(0, 2), 50);
        x.undo();
        due.is("and back", x.edge(0, 2), 1);
    }

    private static void answersHowMany(Due due) {
        PathInterdiction x = Benches.full();
        for (int left = 11; left >= 0; left--) {
            due.is("left", x.undo(), left);
            due.is("count(3)", x.count(3), left);
        }
        PathInterdiction y = Benches.fresh();
        y.clear();
        due.is("the only one", y.undo(), 0);
    }

    private static void none(Due due) {
        Ask.refuses(due, "a new object", STATE, Benches::fresh, PathInterdiction::undo);
        Ask.refuses(due, "all undone", STATE, Promise30::undone, PathInterdiction::undo);
        PathInterdiction x = undone();
        due.is("again", x.undo(), STATE);
        due.is("a change", x.clear(), 6);
        due.is("is undone", x.undo(), 0);
        due.is("and no more", x.undo(), STATE);
    }

    /** No states left, but edges, a text and a finding. */
    private static PathInterdiction undone() {
        PathInterdiction x = Benches.full();
        for (int i = 0; i < 12; i++) {
            x.undo();
        }
        return x;
    }
}

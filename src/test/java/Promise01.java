/** Promise 1: a new object. */
final class Promise01 {
    private static final int BAD = PathInterdiction.BAD, STATE = PathInterdiction.STATE, NONE = PathInterdiction.NONE;

    private Promise01() {
    }

    static void tell(Section promise) {
        promise.says("Creates a workbench without edges", Promise01::hasNoEdges);
        promise.says("Creates a workbench", Promise01::isApart);
        promise.says("with an empty text", Promise01::hasEmptyText);
    }

    private static void hasNoEdges(Due due) {
        PathInterdiction x = new PathInterdiction();
        for (int what = 0; what <= 6; what++) {
            due.is("count(" + what + ")", x.count(what), 0);
            due.is("edge(0, " + what + ")", x.edge(0, what), BAD);
        }
        for (int s = 0; s < 8; s++) {
            for (int t = 0; t < 8; t++) {
                due.is("distance(" + s + ", " + t + ")", x.distance(s, t), s == t ? 0 : PathInterdiction.UNREACHABLE);
            }
        }
        due.is("undo()", x.undo(), STATE);
        due.is("finding()", x.finding(), NONE);
        due.is("clear()", x.clear(), 0);
        due.is("the first edge's number", x.addEdge(0, 1, 1, 1, 1), 0);
    }

    private static void isApart(Due due) {
        PathInterdiction full = Benches.full();
        PathInterdiction x = new PathInterdiction();
        Ask.sameInAll(due, "a new one beside a full one", x, new PathInterdiction());
        PathInterdiction y = new PathInterdiction();
        y.addEdge(0, 1, 1, 1, 1);
        y.clearText();
        Ask.sameInAll(due, "a full one beside a new one", full, Benches.full());
    }

    private static void hasEmptyText(Due due) {
        PathInterdiction x = new PathInterdiction();
        due.is("its length", x.count(4), 0);
        due.is("its fault", x.fault(), NONE);
        due.is("clearText()", x.clearText(), 0);
        due.is("load()", x.load(), 0);
        due.is("the first byte", x.type(' '), 1);
    }
}

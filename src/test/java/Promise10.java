/** Promise 10: load. */
final class Promise10 {
    private static final int STATE = PathInterdiction.STATE, NONE = PathInterdiction.NONE;

    private Promise10() {
    }

    static void tell(Section promise) {
        promise.says("Replaces all edges by those of the text", Promise10::replaces);
        promise.says("in their order", Promise10::keepsOrder);
        promise.says("and empties the text", Promise10::emptiesText);
        promise.says("and the present attack", Promise10::emptiesAttack);
        promise.says("This is a change.", due -> {
            Ask.change(due, PathInterdiction::load, Benches::fresh, Promise10::someThatLoads, Benches::full);
            undoLeavesText(due);
        });
        promise.says("Returns the number of edges", Promise10::answersNumber);
        promise.says("STATE if the text has a fault", Promise10::refusesFault);
        promise.says("(the text stays then)", Promise10::keepsFaultyText);
    }

    private static PathInterdiction someThatLoads() {
        PathInterdiction x = Benches.some();
        Texts.typeInto(x, "x:9");
        return x;
    }

    private static void replaces(Due due) {
        PathInterdiction x = Benches.full();
        int finding = x.finding();
        due.is("15 edges instead of 16", x.load(), 15);
        int[] want = {0, 1, 1, 1, 1, 0};
        for (int e = 0; e < 15; e++) {
            for (int what = 0; what <= 5; what++) {
                due.is("edge(" + e + ", " + what + ")", x.edge(e, what), want[what]);
            }
        }
        due.is("no 16th edge", x.edge(15, 0), PathInterdiction.BAD);
        due.is("the finding stays", x.finding(), finding);
        due.is("no edges instead of 15", x.load(), 0);
        due.is("no edge", x.count(0), 0);
        Texts.typeInto(x, "ha99+x:9");
        due.is("one edge instead of none", x.load(), 1);
        due.is("from h", x.edge(0, 0), 7);
    }

    private static void keepsOrder(Due due) {
        PathInterdiction x = Texts.loaded("ha0+1:1gb1+2:2 fc 09+10:3 ed99+x:9cf00+99:1");
        int[][] want = {{7, 0, 0, 1, 1}, {6, 1, 1, 2, 2}, {5, 2, 9, 10, 3}, {4, 3, 99, 100, 9}, {2, 5, 0, 99, 1}};
        for (int e = 0; e < want.length; e++) {
            for (int what = 0; what <= 4; what++) {
                due.is("edge(" + e + ", " + what + ")", x.edge(e, what), want[e][what]);
            }
        }
    }

    private static void emptiesText(Due due) {
        PathInterdiction x = Texts.typed(Benches.FULL_TEXT);
        x.load();
        due.is("its length", x.count(4), 0);
        due.is("clearText()", x.clearText(), 0);
        due.is("room again", x.type('a'), 1);
        PathInterdiction y = Texts.typed(" ");
        y.load();
        due.is("a blank is gone too", y.count(4), 0);
    }

    private static void emptiesAttack(Due due) {
        PathInterdiction x = Benches.full();
        x.setAttack(0xffff);
        x.load();
        due.is("no edge is attacked", x.count(1), 0);
        due.is("no cost", x.count(2), 0);
        due.is("the last edge", x.edge(14, 5), 0);
        x.addEdge(0, 1, 1, 1, 1);
        due.is("nor one that is added", x.edge(15, 5), 0);
    }

    private static void undoLeavesText(Due due) {
        PathInterdiction x = someThatLoads();
        x.load();
        x.undo();
        due.is("the text is no part of a state", x.count(4), 0);
    }

    private static void answersNumber(Due due) {
        due.is("the empty text", new PathInterdiction().load(), 0);
        due.is("blanks", Texts.typed("   ").load(), 0);
        due.is("110 blanks", Texts.typed(" ".repeat(110)).load(), 0);
        for (int edges = 1; edges <= 15; edges++) {
            PathInterdiction x = Texts.typed("ab1+1:1".repeat(edges));
            due.is(edges + " edges", x.load(), edges);
            due.is("count(0)", x.count(0), edges);
        }
    }

    private static void refusesFault(Due due) {
        String[] faulty = {"a", "ab1+1:", "aa1+1:1", "ab1+0:1", "ab1+1:1 ab1+1:1 !", "ab1+1:12", "i", " !"};
        for (String text : faulty) {
            Ask.refuses(due, "load() of " + text, STATE, () -> Texts.typed(text), PathInterdiction::load);
        }
        Ask.refuses(due, "load() over edges", STATE, Benches::some, PathInterdiction::load);
        Ask.refuses(due, "load() of 110 bytes", STATE, Promise10::fullWithFault, PathInterdiction::load);
    }

    /** All limits reached, and the last byte of the text wrong. */
    private static PathInterdiction fullWithFault() {
        PathInterdiction x = Benches.full();
        x.clearText();
        Texts.typeInto(x, Benches.FULL_TEXT.substring(0, 109) + "!");
        return x;
    }

    private static void keepsFaultyText(Due due) {
        PathInterdiction x = fullWithFault();
        due.is("load()", x.load(), STATE);
        due.is("its length", x.count(4), 110);
        due.is("its fault", x.fault(), 109);
        PathInterdiction y = Texts.typed("ab1+1:");
        due.is("load()", y.load(), STATE);
        y.type('1');
        due.is("mended", y.fault(), NONE);
        due.is("loaded", y.load(), 1);
    }
}

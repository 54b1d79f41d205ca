/** Promise 25: finding. */
final class Promise25 {
    private static final int NONE = PathInterdiction.NONE;

    private Promise25() {
    }

    static void tell(Section promise) {
        promise.says("Returns the finding.", due -> Ask.question(due, PathInterdiction::finding));
        promise.says("Returns the set of edges", Promise25::ofEachFinder);
        promise.says("NONE if nothing was found yet", Promise25::noneYet);
    }

    private static void ofEachFinder(Due due) {
        PathInterdiction x = Texts.loaded(Benches.DIAMOND);
        x.interdict(0, 3, 5);
        due.is("of interdict", x.finding(), Texts.set(1, 2));
        x.greedy(0, 3, 1);
        due.is("of greedy", x.finding(), Texts.set(0));
        x.budgetFor(0, 3, 7);
        due.is("of budgetFor", x.finding(), Texts.set(0, 2));
        x.interdictResponse(0, 3, 5, 1);
        due.is("of interdictResponse", x.finding(), Texts.set(0, 1));
        x.fortify(0, 3, 2, 2);
        due.is("of fortify", x.finding(), Texts.set(0, 1));
        PathInterdiction y = new PathInterdiction();
        for (int e = 0; e < 16; e++) {
            y.addEdge(0, 1, e == 15 ? 0 : 99, 99, 1);
        }
        y.interdict(0, 1, 1);
        due.is("the last bit", y.finding(), 0x8000);
        PathInterdiction z = Benches.ladder(1);
        z.greedy(0, 1, 16);
        due.is("all bits", z.finding(), 0xffff);
    }

    private static void noneYet(Due due) {
        PathInterdiction x = Benches.fresh();
        due.is("a new object", x.finding(), NONE);
        Texts.typeInto(x, Benches.DIAMOND);
        x.load();
        x.setAttack(3);
        x.blockade(0, 3);
        x.respond(0, 3, 1, 1);
        x.worth(0, 3, 1);
        x.neverHelps(0, 3, 5);
        x.expected(0, 3, 3, 6);
        x.lost(0, 3, 3, 6);
        x.tight(0, 3);
        x.undo();
        due.is("calls that find nothing", x.finding(), NONE);
        x.interdict(0, 3, 6);
        x.greedy(0, 3, 21);
        x.budgetFor(0, 3, -1);
        x.interdictResponse(0, 3, 5, 4);
        x.fortify(0, 3, 4, 2);
        due.is("calls that are refused", x.finding(), NONE);
        x.budgetFor(0, 3, PathInterdiction.UNREACHABLE);
        due.is("a budget that is not found", x.finding(), NONE);
        x.interdict(0, 3, 0);
        due.is("the empty set is a finding", x.finding(), 0);
    }
}

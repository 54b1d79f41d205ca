/** Promise 12: setAttack. */
final class Promise12 {
    private static final int BAD = PathInterdiction.BAD;

    private Promise12() {
    }

    static void tell(Section promise) {
        promise.says("Sets the present attack.", Promise12::sets);
        promise.says("This is a change.", due -> {
            Ask.change(due, x -> x.setAttack(0), Benches::fresh, Benches::some, Benches::full);
            Ask.change(due, x -> x.setAttack(31), Benches::some, Benches::full);
            Ask.change(due, x -> x.setAttack(Texts.set(0, 2)), Benches::some);
            Ask.change(due, x -> x.setAttack(Benches.FULL_ATTACK), Benches::full);
        });
        promise.says("`edges`: the set of its edges", due -> Ask.set(due, PathInterdiction::setAttack));
        promise.says("Returns its cost", Promise12::answersCost);
        promise.says("BAD if the set contains an edge that does not exist", Promise12::bad);
    }

    private static void sets(Due due) {
        PathInterdiction x = Benches.full();
        for (int set : new int[] {0, 0xffff, 1, 0x8000, 0x7fff, 0xfffe, 0x5555}) {
            x.setAttack(set);
            due.is("set " + set + ": attacked", x.count(1), Integer.bitCount(set));
            for (int e = 0; e < 16; e++) {
                due.is("set " + set + ": edge(" + e + ", 5)", x.edge(e, 5), set >> e & 1);
            }
        }
    }

    private static void answersCost(Due due) {
        due.is("the empty set of no edges", Benches.fresh().setAttack(0), 0);
        due.is("the empty set", Benches.full().setAttack(0), 0);
        due.is("all 16", Benches.ladder(9).setAttack(0xffff), 144);
        due.is("all of five", Benches.some().setAttack(31), 15);
        due.is("the first one", Benches.some().setAttack(1), 1);
        due.is("the last one", Benches.some().setAttack(16), 5);
    }

    private static void bad(Due due) {
        Ask.refuses(due, "{0} of none", BAD, Benches::fresh, x -> x.setAttack(1));
        Ask.refuses(due, "{5} of five", BAD, Benches::some, x -> x.setAttack(32));
        Ask.refuses(due, "{0, .., 5} of five", BAD, Benches::some, x -> x.setAttack(63));
        Ask.refuses(due, "{16} of 16", BAD, Benches::full, x -> x.setAttack(0x10000));
        Ask.refuses(due, "{0, .., 16} of 16", BAD, Benches::full, x -> x.setAttack(0x1ffff));
        Ask.refuses(due, "{0, 31} of 16", BAD, Benches::full, x -> x.setAttack(Integer.MIN_VALUE | 1));
        PathInterdiction x = Benches.full();
        x.removeEdge(3);
        due.is("{15} of 15", x.setAttack(0x8000), BAD);
        due.holds("{14} of 15", x.setAttack(0x4000) > 0);
        x.clear();
        due.is("{0} after clear()", x.setAttack(1), BAD);
    }
}

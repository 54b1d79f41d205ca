/** Promise 26: worth. */
final class Promise26 {
    private static final int FAR = PathInterdiction.UNREACHABLE;

    private Promise26() {
    }

    static void tell(Section promise) {
        promise.says("Returns what an edge is worth to the attacker", due -> Ask.question(due, x -> x.worth(0, 3, 4)));
        promise.says("by how much the distance is greater if it is added to the present attack", Promise26::added);
        promise.says("or, if it is in it, than if it is taken out", Promise26::takenOut);
        promise.says("`from`: the node s", due -> Ask.range(due, 0, 7, (x, v) -> x.worth(v, 1, 0)));
        promise.says("`to`: the node t", due -> Ask.range(due, 0, 7, (x, v) -> x.worth(1, v, 0)));
        promise.says("the node t", due -> Ask.ways(due, (x, s, t) -> x.worth(s, t, 0), 5, 0));
        promise.says("`edge`: the edge", due -> Ask.edge(due, (x, e) -> x.worth(0, 3, e)));
        promise.says("Returns the difference (UNREACHABLE counts as a number)", Promise26::unreachable);
        promise.says("BAD", due -> {
            Ask.refuses(due, "edge 0 of none", PathInterdiction.BAD, Benches::fresh, x -> x.worth(0, 0, 0));
            Ask.refuses(due, "edge 32, though 0 is attacked", PathInterdiction.BAD, Benches::full, x -> x.worth(0, 1, 32));
        });
    }

    private static void added(Due due) {
        PathInterdiction x = Texts.loaded(Benches.DIAMOND);
        int[] empty = {1, 1, 0, 0, 0};
        for (int e = 0; e < 5; e++) {
            due.is("edge " + e + " beside nothing", x.worth(0, 3, e), empty[e]);
        }
        x.setAttack(Texts.set(1));
        int[] beside = {0, 1, 3, 3, 0};
        for (int e = 0; e < 5; e++) {
            due.is("edge " + e + " beside 1", x.worth(0, 3, e), beside[e]);
        }
        due.is("s = t", x.worth(0, 0, 0), 0);
    }

    private static void takenOut(Due due) {
        PathInterdiction x = Texts.loaded(Benches.DIAMOND);
        x.setAttack(31);
        int[] want = {0, 15 - 8, 15 - 11, 15 - 10, 15 - 9};
        for (int e = 0; e < 5; e++) {
            due.is("edge " + e + " out of all", x.worth(0, 3, e), want[e]);
        }
        PathInterdiction y = Benches.ladder(1);
        y.setAttack(0xffff);
        due.is("the last edge out of 16", y.worth(0, 1, 15), FAR - 15);
        due.is("the first edge out of 16", y.worth(0, 1, 0), FAR);
        due.is("the attack stays", y.count(1), 16);
    }

    private static void unreachable(Due due) {
        PathInterdiction x = Texts.loaded("ab0+x:1 cd99+x:1 cd99+1:1");
        due.is("from 0 to unreachable", x.worth(0, 1, 0), FAR);
        due.is("unreachable in any case", x.worth(1, 0, 0), 0);
        due.is("no edge of the way", x.worth(2, 3, 0), 0);
        due.is("beside another one", x.worth(2, 3, 1), 0);
        x.setAttack(1);
        due.is("from unreachable to 0", x.worth(0, 1, 0), FAR);
        x.removeEdge(2);
        due.is("the last way", x.worth(2, 3, 1), FAR - 99);
    }
}

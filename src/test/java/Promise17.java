/** Promise 17: tight. */
final class Promise17 {
    private Promise17() {
    }

    static void tell(Section promise) {
        promise.says("Returns the set of the edges that are on at least one path of the least length", Promise17::edges);
        promise.says("Returns the set", due -> Ask.question(due, x -> x.tight(0, 3)));
        promise.says("under the present attack", Promise17::underAttack);
        promise.says("simple or not", Promise17::notSimple);
        promise.says("`from`: the node s", due -> Ask.from(due, PathInterdiction::tight));
        promise.says("`to`: the node t", due -> Ask.to(due, PathInterdiction::tight));
        promise.says("the node t", due -> Ask.ways(due, PathInterdiction::tight, 3, 0));
        promise.says("Returns the set, 0 if there is no path", Promise17::noPath);
        promise.says("or s = t", Promise17::sameNode);
        promise.says("BAD", due -> Ask.isBad(due, "tight(8, 8)", x -> x.tight(8, 8)));
    }

    private static void edges(Due due) {
        PathInterdiction x = new PathInterdiction();
        for (int e = 0; e < 16; e++) {
            x.addEdge(e / 4, e / 4 + 1, 5, 1, 1);
        }
        due.is("all 16", x.tight(0, 4), 0xffff);
        due.is("the last four", x.tight(3, 4), 0xf000);
        x.setEdge(15, 2, 6);
        due.is("one is too long by 1", x.tight(0, 4), 0x7fff);
        x.setEdge(15, 2, 4);
        due.is("one is shorter by 1", x.tight(0, 4), 0x8fff);
    }

    private static void underAttack(Due due) {
        PathInterdiction x = Benches.ladder(1);
        due.is("no attack", x.tight(0, 1), 1);
        x.setAttack(0x7fff);
        due.is("all but the last one", x.tight(0, 1), 0x8000);
        x.setAttack(0xffff);
        due.is("all", x.tight(0, 1), 0);
        PathInterdiction y = Texts.loaded("ab1+1:1 ab2+1:1 ab3+x:1");
        y.setAttack(1);
        due.is("a delay makes two equal", y.tight(0, 1), 3);
        y.setAttack(5);
        due.is("beside a blocked one", y.tight(0, 1), 3);
        PathInterdiction z = Texts.loaded("ab1+1:1 bd1+5:1 ad2+1:1");
        z.setAttack(2);
        due.is("an edge before a delayed one", z.tight(0, 3), 4);
    }

    private static void notSimple(Due due) {
        PathInterdiction x = Texts.loaded("ab1+1:1 bc0+1:1 cb0+1:1 bd0+1:1 db0+1:1 ea0+1:1 ae0+1:1");
        due.is("free cycles before, on and behind the way", x.tight(0, 1), 127);
        x.setEdge(2, 2, 1);
        due.is("a cycle that is not free", x.tight(0, 1), 127 & ~6);
        PathInterdiction y = Texts.loaded("ab0+1:1 bc0+x:1 cb0+1:1");
        y.setAttack(2);
        due.is("a cycle that is blocked", y.tight(0, 1), 1);
    }

    private static void noPath(Due due) {
        due.is("no edges", Benches.fresh().tight(0, 1), 0);
        PathInterdiction x = Texts.loaded("ab0+x:1 cd0+1:1 dc0+1:1");
        due.is("the wrong way", x.tight(1, 0), 0);
        due.is("another part", x.tight(0, 3), 0);
        x.setAttack(1);
        due.is("blocked", x.tight(0, 1), 0);
    }

    private static void sameNode(Due due) {
        PathInterdiction x = Texts.loaded("ab0+1:1 ba0+1:1");
        for (int v = 0; v < 8; v++) {
            due.is("tight(" + v + ", " + v + ")", x.tight(v, v), 0);
        }
    }
}

/** Promise 22: respond. */
final class Promise22 {
    private static final int BAD = PathInterdiction.BAD, FAR = PathInterdiction.UNREACHABLE;

    private Promise22() {
    }

    static void tell(Section promise) {
        promise.says("Returns the distance for a traveler who can repair", due -> Ask.question(due, x -> x.respond(0, 3, 0, 3)));
        promise.says("under an attack, the least length of a path where at most a number of its edges", Promise22::atMost);
        promise.says("each time they are used, count as not attacked", Promise22::eachTime);
        promise.says("a blocked edge can be used then", Promise22::blocked);
        promise.says("`from`: the node s", due -> Ask.from(due, (x, s, t) -> x.respond(s, t, 0, 3)));
        promise.says("`to`: the node t", due -> Ask.to(due, (x, s, t) -> x.respond(s, t, 0, 0)));
        promise.says("the node t", due -> Ask.ways(due, (x, s, t) -> x.respond(s, t, 3, 1), 8, FAR));
        promise.says("`edges`: the attack", Promise22::attack);
        promise.says("`repairs`: how often, 0 to 3", due -> Ask.range(due, 0, 3, (x, r) -> x.respond(0, 3, 0, r)));
        promise.says("Returns the distance, perhaps UNREACHABLE", Promise22::answersDistance);
        promise.says("BAD", due -> Ask.isBad(due, "repairs 4", x -> x.respond(0, 0, 0, 4)));
        promise.says("also if the set contains an edge that does not exist",
            due -> Ask.set(due, (x, set) -> x.respond(0, 3, set, 1)));
    }

    private static void atMost(Due due) {
        PathInterdiction x = Texts.loaded("ab1+9:1 bc1+8:1 cd1+7:1 de1+6:1 ef1+5:1");
        int[] left = {40, 31, 23, 16};
        for (int repairs = 0; repairs <= 3; repairs++) {
            due.is(repairs + " repairs of five", x.respond(0, 5, 31, repairs), left[repairs]);
            due.is(repairs + " repairs of none", x.respond(0, 5, 0, repairs), 5);
        }
        due.is("as many as are attacked", x.respond(0, 5, 7, 3), 5);
        due.is("one less", x.respond(0, 5, 7, 2), 12);
        PathInterdiction y = Texts.loaded("ab1+10:1 bc1+10:1 ac5+20:1");
        due.is("one repair: the other way", y.respond(0, 2, 7, 1), 5);
        due.is("two repairs: the long way", y.respond(0, 2, 7, 2), 2);
        due.is("no repair", y.respond(0, 2, 7, 0), 22);
    }

    private static void eachTime(Due due) {
        PathInterdiction x = Texts.loaded("ab0+x:1 ba0+x:1 bc4+1:1");
        due.is("a way round costs nothing, and is of no use", x.respond(0, 2, 7, 1), 5);
        due.is("two repairs", x.respond(0, 2, 7, 2), 4);
        due.is("three repairs", x.respond(0, 2, 7, 3), 4);
    }

    private static void blocked(Due due) {
        PathInterdiction x = Texts.loaded(Benches.CHAIN);
        for (int blocks = 0; blocks <= 7; blocks++) {
            for (int repairs = 0; repairs <= 3; repairs++) {
                due.is(blocks + " blocks, " + repairs + " repairs", x.respond(0, 7, (1 << blocks) - 1, repairs),
                    blocks <= repairs ? 7 : FAR);
            }
        }
        PathInterdiction y = Texts.loaded("ab99+x:1");
        due.is("its own length counts", y.respond(0, 1, 1, 1), 99);
    }

    private static void attack(Due due) {
        PathInterdiction x = Benches.ladder(1);
        due.is("all 16", x.respond(0, 1, 0xffff, 0), FAR);
        due.is("all 16, one repair", x.respond(0, 1, 0xffff, 1), 0);
        due.is("all but the last one", x.respond(0, 1, 0x7fff, 0), 15);
        due.is("the last one", x.respond(0, 1, 0x8000, 0), 0);
        x.setAttack(0xffff);
        due.is("the present attack is not regarded", x.respond(0, 1, 0, 0), 0);
    }

    private static void answersDistance(Due due) {
        due.is("no edges", Benches.fresh().respond(0, 7, 0, 3), FAR);
        due.is("no edges, s = t", Benches.fresh().respond(7, 7, 0, 0), 0);
        PathInterdiction x = Texts.loaded("ab1+x:1 cd1+1:1");
        due.is("no path, whatever is repaired", x.respond(1, 0, 3, 3), FAR);
        due.is("s = t", x.respond(0, 0, 3, 3), 0);
        due.is("BAD comes before UNREACHABLE", x.respond(1, 0, 4, 3), BAD);
    }
}

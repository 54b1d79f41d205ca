/** The terms: edges, sets, attacks, paths. */
final class TermsGraph {
    private static final int BAD = PathInterdiction.BAD, FULL = PathInterdiction.FULL, NONE = PathInterdiction.NONE;
    private static final int FAR = PathInterdiction.UNREACHABLE, BLOCK = PathInterdiction.BLOCK;

    private TermsGraph() {
    }

    static void tell(Section terms) {
        terms.says("Graphs are made by calls or read from texts.", TermsGraph::callsAndTexts);
        terms.leaves("The workbench tells shortest paths and all simple paths under the present attack, finds best attacks "
            + "for a budget, greedy ones, and the least budget for an aim, cheapest blockades, best responses of a traveler "
            + "who can repair some edges, attacks against such travelers, edges that should be fortified beforehand, and "
            + "what distance is to be expected if attacks succeed only by chance.", "the promises 13 to 29 say it in full");
        terms.says("There are the nodes 0 to 7", TermsGraph::nodes);
        terms.says("and up to 16 edges, numbered from 0.", TermsGraph::upToSixteen);
        terms.says("An edge leads from one node to another one", TermsGraph::leadsOneWay);
        terms.says("several edges may lead from the same node to the same other one", TermsGraph::sideBySide);
        terms.says("It has a length from 0 to 99, a delay from 1 to 99 or BLOCK, and a cost from 1 to 9.", TermsGraph::ranges);
        terms.says("Sets of edges are written as numbers in which bit e stands for edge e.", TermsGraph::bits);
        terms.says("The cost of a set is the sum of the costs of its edges.", TermsGraph::costs);
        terms.says("The length of an edge under an attack, which is a set of edges, is its length if it is not in the set; "
            + "its length plus its delay if it is", TermsGraph::lengthsUnderAttack);
        terms.says("if it is and its delay is BLOCK, it cannot be used", TermsGraph::blocked);
        terms.says("A path from s to t is a sequence of edges that can be used, the first one leading from s, each other one "
            + "from the node to which the one before leads, and the last one to t", TermsGraph::sequences);
        terms.says("for s = t the empty sequence is a path", TermsGraph::emptySequence);
        terms.says("The length of a path is the sum of the lengths of its edges, and the distance from s to t is the least "
            + "length of a path, or UNREACHABLE if there is none.", TermsGraph::distances);
        terms.says("A path is simple if no node occurs twice on it.", TermsGraph::simple);
        terms.says("Sequences of edges are compared lexicographically, by the numbers of edges.", TermsGraph::lexicographic);
        terms.says("The first path is, of the simple paths with the least length, the least sequence.", TermsGraph::firstPath);
    }

    private static void callsAndTexts(Due due) {
        PathInterdiction x = Texts.loaded("ah0+1:1 ha99+x:9");
        PathInterdiction y = new PathInterdiction();
        y.addEdge(0, 7, 0, 1, 1);
        y.addEdge(7, 0, 99, BLOCK, 9);
        for (int e = 0; e < 2; e++) {
            for (int what = 0; what <= 5; what++) {
                due.is("edge(" + e + ", " + what + ")", x.edge(e, what), y.edge(e, what));
            }
        }
        Texts.typeInto(y, "cd1+1:1");
        due.is("a text over calls", y.load(), 1);
        due.is("a call over a text", y.addEdge(0, 1, 1, 1, 1), 1);
    }

    private static void nodes(Due due) {
        PathInterdiction x = Texts.loaded("ab1+1:1bc1+1:1cd1+1:1de1+1:1ef1+1:1fg1+1:1gh1+1:1ha1+1:1");
        for (int s = -1; s <= 8; s++) {
            for (int t = -1; t <= 8; t++) {
                boolean both = s >= 0 && s <= 7 && t >= 0 && t <= 7;
                due.is("distance(" + s + ", " + t + ")", x.distance(s, t), both ? (t - s + 8) % 8 : BAD);
            }
        }
    }

    private static void upToSixteen(Due due) {
        PathInterdiction x = new PathInterdiction();
        due.is("edge 0 is not there yet", x.edge(0, 2), BAD);
        for (int e = 0; e < 16; e++) {
            due.is("edge " + e, x.addEdge(0, 1, e, 1, 1), e);
        }
        due.is("edge 16", x.addEdge(0, 1, 16, 1, 1), FULL);
        due.is("the first edge is 0", x.edge(0, 2), 0);
        due.is("the last edge is 15", x.edge(15, 2), 15);
        due.is("there is no 16", x.edge(16, 2), BAD);
    }

    private static void leadsOneWay(Due due) {
        for (int from = 0; from < 8; from++) {
            for (int to = 0; to < 8; to++) {
                PathInterdiction x = new PathInterdiction();
                due.is("from " + from + " to " + to, x.addEdge(from, to, 5, 1, 1), from == to ? BAD : 0);
                due.is("there", x.distance(from, to), from == to ? 0 : 5);
                due.is("back", x.distance(to, from), from == to ? 0 : FAR);
            }
        }
    }

    private static void sideBySide(Due due) {
        PathInterdiction x = Benches.ladder(1);
        due.is("16 of them", x.paths(0, 1, 99), 16);
        PathInterdiction y = Texts.loaded("ab1+1:1ab1+1:1");
        due.is("two that are alike", y.count(0), 2);
        due.is("are two paths", y.paths(0, 1, 1), 2);
        due.is("removed one by one", y.removeEdge(0), 1);
        due.is("one is left", y.distance(0, 1), 1);
    }

    private static void ranges(Due due) {
        int[][] allowed = {{0, 1, 1}, {99, 99, 9}, {0, BLOCK, 9}, {99, BLOCK, 1}};
        int[][] refused = {{-1, 1, 1}, {100, 1, 1}, {0, 0, 1}, {0, 101, 1}, {0, 1, 0}, {0, 1, 10}};
        for (int[] e : allowed) {
            due.is("addEdge", new PathInterdiction().addEdge(0, 1, e[0], e[1], e[2]), 0);
        }
        for (int[] e : refused) {
            Ask.isBad(due, "addEdge " + e[0] + ", " + e[1] + ", " + e[2], x -> x.addEdge(0, 1, e[0], e[1], e[2]));
        }
    }

    private static void bits(Due due) {
        for (int e = 0; e < 16; e++) {
            PathInterdiction x = Benches.full();
            x.setAttack(1 << e);
            due.is("bit " + e, x.edge(e, 5), 1);
            due.is("bit " + e + " alone", x.count(1), 1);
            PathInterdiction y = new PathInterdiction();
            for (int i = 0; i < 16; i++) {
                y.addEdge(i == e ? 0 : 2, 1, 1, 1, 1);
            }
            due.is("tight " + e, y.tight(0, 1), 1 << e);
            due.is("interdict", y.interdict(0, 1, 1), 2);
            due.is("finding " + e, y.finding(), 1 << e);
            due.is("neverHelps but " + e, y.neverHelps(0, 1, 1), 0xffff & ~(1 << e));
        }
    }

    private static void costs(Due due) {
        PathInterdiction x = Texts.loaded("ab1+1:1ab1+1:2ab1+1:3ab1+1:9");
        int[] costs = {1, 2, 3, 9};
        for (int set = 0; set < 16; set++) {
            int sum = 0;
            for (int e = 0; e < 4; e++) {
                sum += (set >> e & 1) * costs[e];
            }
            due.is("the set " + set, x.setAttack(set), sum);
            due.is("count(2)", x.count(2), sum);
        }
    }

    private static void lengthsUnderAttack(Due due) {
        int[][] edges = {{0, 1}, {0, 99}, {99, 1}, {99, 99}, {50, 7}};
        for (int[] e : edges) {
            PathInterdiction x = new PathInterdiction();
            x.addEdge(0, 1, e[0], e[1], 1);
            x.addEdge(2, 3, 1, 1, 1);
            due.is("not in the set", x.distance(0, 1), e[0]);
            x.setAttack(2);
            due.is("another one in the set", x.distance(0, 1), e[0]);
            x.setAttack(1);
            due.is("in the set", x.distance(0, 1), e[0] + e[1]);
        }
    }

    private static void blocked(Due due) {
        for (int length : new int[] {0, 1, 99}) {
            PathInterdiction x = new PathInterdiction();
            x.addEdge(0, 1, length, BLOCK, 1);
            due.is("not in the set", x.distance(0, 1), length);
            x.setAttack(1);
            due.is("distance", x.distance(0, 1), FAR);
            due.is("first", x.first(0, 1, NONE), NONE);
            due.is("paths", x.paths(0, 1, Integer.MAX_VALUE), 0);
            due.is("pathLength", x.pathLength(0, 1, 0), NONE);
            due.is("tight", x.tight(0, 1), 0);
            due.is("count(6)", x.count(6), 0);
        }
    }

    private static void sequences(Due due) {
        PathInterdiction x = Texts.loaded("ab1+1:1 cd1+1:1 bc1+x:1 dc1+1:1");
        due.is("one after the other", x.distance(0, 3), 3);
        due.is("not against their way", x.distance(3, 0), FAR);
        due.is("the middle", x.distance(1, 3), 2);
        x.setAttack(4);
        due.is("one cannot be used", x.distance(0, 3), FAR);
        due.is("the part before it", x.distance(0, 1), 1);
        due.is("the part behind it", x.distance(2, 3), 1);
    }

    private static void emptySequence(Due due) {
        PathInterdiction x = Texts.loaded("ab0+1:1 ba0+1:1");
        for (int v = 0; v < 8; v++) {
            due.is("distance", x.distance(v, v), 0);
            due.is("first", x.first(v, v, NONE), 0);
            due.is("paths", x.paths(v, v, 0), 1);
            due.is("pathLength", x.pathLength(v, v, 0), 0);
            due.is("respond", x.respond(v, v, 3, 0), 0);
        }
    }

    private static void distances(Due due) {
        PathInterdiction x = Texts.loaded("ab2+1:1 bc3+1:1 ac6+1:1");
        due.is("the sum is less", x.distance(0, 2), 5);
        x.setEdge(2, 2, 5);
        due.is("equal", x.distance(0, 2), 5);
        x.setEdge(2, 2, 4);
        due.is("the edge is less", x.distance(0, 2), 4);
        due.is("none", x.distance(2, 0), FAR);
        due.is("UNREACHABLE", FAR, 9999);
    }

    private static void simple(Due due) {
        PathInterdiction x = Texts.loaded("ab0+1:1 bc0+1:1 ca0+1:1 bd0+1:1");
        due.is("not round and on", x.paths(0, 3, 99), 1);
        due.is("not round", x.paths(0, 0, 99), 1);
        due.is("not through t and back", Texts.loaded("ab0+1:1 bc0+1:1 cb0+1:1").paths(0, 1, 99), 1);
        due.is("not back to s and on", Texts.loaded("ab0+1:1 ba0+1:1 ac0+1:1").paths(0, 2, 99), 1);
        due.is("all eight nodes once", Texts.loaded(Benches.CHAIN).paths(0, 7, 7), 1);
    }

    private static void lexicographic(Due due) {
        PathInterdiction x = Texts.loaded("cb1+1:1 ac1+1:1 ab2+1:1");
        due.is("the first edge decides, not the least one", x.first(0, 1, 0), 1);
        PathInterdiction y = Texts.loaded("ab1+1:1 bd1+1:1 bd1+1:1 ab1+1:1");
        due.is("the second edge decides then", y.first(0, 3, 1), 1);
        PathInterdiction z = Texts.loaded("ab0+1:1 bc0+1:1 cd0+1:1 ad0+1:1");
        due.is("a longer sequence can be less", z.first(0, 3, NONE), 3);
        PathInterdiction w = Texts.loaded("ad0+1:1 ab0+1:1 bc0+1:1 cd0+1:1");
        due.is("a shorter one too", w.first(0, 3, NONE), 1);
        PathInterdiction v = new PathInterdiction();
        for (int e = 0; e < 16; e++) {
            v.addEdge(e < 3 ? 2 : 0, 1, 1, 1, 1);
        }
        due.is("3 is less than 10, as numbers", v.first(0, 1, 0), 3);
    }

    private static void firstPath(Due due) {
        PathInterdiction x = Texts.loaded("ab9+1:1 ac1+1:1 cb7+1:1 ab8+1:1");
        due.is("the least length before the least sequence", x.first(0, 1, 0), 1);
        x.setAttack(2);
        due.is("the attack counts", x.first(0, 1, 0), 3);
        PathInterdiction y = Texts.loaded("ab0+1:1 ba0+1:1 ac1+1:1 bc2+1:1");
        due.is("only simple paths", y.first(0, 2, NONE), 1);
        due.is("not by b and back", y.first(0, 2, 0), 2);
    }
}

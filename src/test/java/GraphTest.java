/** Promises 1 to 6: a new object, addEdge, removeEdge, setEdge, edge, clear. */
public final class GraphTest {
    private static final int BAD = PathInterdiction.BAD, FULL = PathInterdiction.FULL, NONE = PathInterdiction.NONE;
    private static final Due due = new Due("GraphTest");

    private GraphTest() {
    }

    public static void main(String[] args) {
        newObject();
        addEdge();
        addEdgeWrong();
        addEdgeFull();
        removeEdge();
        setEdge();
        setEdgeWrong();
        edge();
        clear();
        objectsAreApart();
        due.end();
    }

    private static void newObject() {
        PathInterdiction x = new PathInterdiction();
        for (int what = 0; what <= 6; what++) {
            due.is("1: count(" + what + ") of a new object", x.count(what), 0);
        }
        due.is("1: finding() of a new object", x.finding(), NONE);
        due.is("1: fault() of a new object", x.fault(), NONE);
        due.is("1: undo() of a new object", x.undo(), PathInterdiction.STATE);
        due.is("1: distance of a new object", x.distance(3, 4), PathInterdiction.UNREACHABLE);
    }

    private static void addEdge() {
        PathInterdiction x = new PathInterdiction();
        due.is("2: the first edge", x.addEdge(0, 7, 0, 1, 1), 0);
        due.is("2: a second edge between the same nodes", x.addEdge(0, 7, 99, 99, 9), 1);
        due.is("2: an edge back, that an attack blocks", x.addEdge(7, 0, 50, PathInterdiction.BLOCK, 5), 2);
        int[][] want = {{0, 7, 0, 1, 1, 0}, {0, 7, 99, 99, 9, 0}, {7, 0, 50, 100, 5, 0}};
        for (int e = 0; e < want.length; e++) {
            for (int what = 0; what <= 5; what++) {
                due.is("2: edge(" + e + ", " + what + ")", x.edge(e, what), want[e][what]);
            }
        }
        due.is("2: each one is a change", x.count(3), 3);
    }

    private static void addEdgeWrong() {
        PathInterdiction x = new PathInterdiction();
        int[][] wrong = {
            {-1, 1, 1, 1, 1}, {8, 1, 1, 1, 1}, {0, -1, 1, 1, 1}, {0, 8, 1, 1, 1}, {3, 3, 1, 1, 1},
            {0, 1, -1, 1, 1}, {0, 1, 100, 1, 1}, {0, 1, 1, 0, 1}, {0, 1, 1, 101, 1}, {0, 1, 1, -1, 1},
            {0, 1, 1, 1, 0}, {0, 1, 1, 1, 10},
            {Integer.MIN_VALUE, 1, 1, 1, 1}, {0, Integer.MAX_VALUE, 1, 1, 1}, {0, 1, Integer.MAX_VALUE, 1, 1},
            {0, 1, 1, Integer.MIN_VALUE, 1}, {0, 1, 1, 1, Integer.MAX_VALUE}};
        for (int i = 0; i < wrong.length; i++) {
            int[] w = wrong[i];
            due.is("2: wrong edge " + i, x.addEdge(w[0], w[1], w[2], w[3], w[4]), BAD);
        }
        due.is("2: an error adds nothing", x.count(0), 0);
        due.is("2: an error is no change", x.count(3), 0);
    }

    private static void addEdgeFull() {
        PathInterdiction x = new PathInterdiction();
        for (int e = 0; e < 16; e++) {
            due.is("2: edge " + e + " of 16", x.addEdge(e % 8, (e + 1) % 8, e, 1 + e, 1), e);
        }
        due.is("2: the 17th edge", x.addEdge(0, 1, 1, 1, 1), FULL);
        due.is("2: BAD comes before FULL", x.addEdge(0, 0, 1, 1, 1), BAD);
        due.is("2: 16 edges stay", x.count(0), 16);
        due.is("2: the last edge", x.edge(15, 3), 16);
        due.is("2: all 16 can be attacked", x.setAttack(0xffff), 16);
        due.is("2: there is no 17th to attack", x.setAttack(0x10000), BAD);
        due.is("2: after a removal", x.removeEdge(4), 15);
        due.is("2: there is room again", x.addEdge(0, 1, 1, 1, 1), 15);
    }

    private static void removeEdge() {
        PathInterdiction x = Texts.loaded("ab1+1:1 bc2+2:2 cd3+3:3 de4+4:4 ef5+5:5");
        x.setAttack(Texts.set(0, 2, 3));
        due.is("3: removeEdge(5)", x.removeEdge(5), BAD);
        due.is("3: removeEdge(-1)", x.removeEdge(-1), BAD);
        due.is("3: removeEdge(32)", x.removeEdge(32), BAD);
        due.is("3: errors are no changes", x.count(3), 2);
        due.is("3: removeEdge(1), not attacked", x.removeEdge(1), 4);
        due.is("3: it is a change", x.count(3), 3);
        int[] lengths = {1, 3, 4, 5};
        int[] attacked = {1, 1, 1, 0};
        for (int e = 0; e < 4; e++) {
            due.is("3: length of " + e, x.edge(e, 2), lengths[e]);
            due.is("3: delay of " + e, x.edge(e, 3), lengths[e]);
            due.is("3: attack of " + e, x.edge(e, 5), attacked[e]);
        }
        due.is("3: removeEdge(1), attacked", x.removeEdge(1), 3);
        due.is("3: the others stay attacked", x.count(1), 2);
        due.is("3: cost of the attack", x.count(2), 5);
        due.is("3: attack of the last one", x.edge(2, 5), 0);
        due.is("3: the first one", x.removeEdge(0), 2);
        due.is("3: attack moved", x.edge(0, 5), 1);
        due.is("3: the last one", x.removeEdge(1), 1);
        due.is("3: the only one", x.removeEdge(0), 0);
        due.is("3: the attack is empty", x.count(1), 0);
        due.is("3: nothing left", x.removeEdge(0), BAD);
    }

    private static void setEdge() {
        PathInterdiction x = Texts.loaded("ab1+2:3 bc4+5:6");
        due.is("4: length", x.setEdge(1, 2, 99), 4);
        due.is("4: length 0", x.setEdge(1, 2, 0), 99);
        due.is("4: delay", x.setEdge(1, 3, PathInterdiction.BLOCK), 5);
        due.is("4: delay 1", x.setEdge(1, 3, 1), 100);
        due.is("4: delay 99", x.setEdge(1, 3, 99), 1);
        due.is("4: cost", x.setEdge(1, 4, 9), 6);
        due.is("4: cost 1", x.setEdge(1, 4, 1), 9);
        due.is("4: the same value is a change too", x.setEdge(1, 4, 1), 1);
        due.is("4: changes", x.count(3), 9);
        int[] want = {1, 2, 0, 99, 1, 0};
        int[] other = {0, 1, 1, 2, 3, 0};
        for (int what = 0; what <= 5; what++) {
            due.is("4: edge(1, " + what + ")", x.edge(1, what), want[what]);
            due.is("4: edge(0, " + what + ")", x.edge(0, what), other[what]);
        }
        x.setAttack(2);
        due.is("4: an attacked edge", x.setEdge(1, 4, 7), 1);
        due.is("4: the cost of the attack", x.count(2), 7);
    }

    private static void setEdgeWrong() {
        PathInterdiction x = Texts.loaded("ab1+2:3");
        int[][] wrong = {
            {-1, 2, 1}, {1, 2, 1}, {0, 0, 1}, {0, 1, 1}, {0, 5, 1}, {0, -1, 1}, {0, 6, 1},
            {0, 2, -1}, {0, 2, 100}, {0, 3, 0}, {0, 3, 101}, {0, 4, 0}, {0, 4, 10},
            {Integer.MIN_VALUE, 2, 1}, {0, Integer.MAX_VALUE, 1}, {0, 2, Integer.MIN_VALUE}};
        for (int i = 0; i < wrong.length; i++) {
            due.is("4: wrong " + i, x.setEdge(wrong[i][0], wrong[i][1], wrong[i][2]), BAD);
        }
        due.is("4: errors are no changes", x.count(3), 1);
        due.is("4: length stays", x.edge(0, 2), 1);
        due.is("4: delay stays", x.edge(0, 3), 2);
        due.is("4: cost stays", x.edge(0, 4), 3);
    }

    private static void edge() {
        PathInterdiction x = Texts.loaded("gh12+x:7 ba3+45:6");
        x.attack(1, true);
        int[][] want = {{6, 7, 12, 100, 7, 0}, {1, 0, 3, 45, 6, 1}};
        for (int e = 0; e < 2; e++) {
            for (int what = 0; what <= 5; what++) {
                due.is("5: edge(" + e + ", " + what + ")", x.edge(e, what), want[e][what]);
            }
            due.is("5: what 6", x.edge(e, 6), BAD);
            due.is("5: what -1", x.edge(e, -1), BAD);
        }
        due.is("5: edge 2", x.edge(2, 0), BAD);
        due.is("5: edge 2, attack", x.edge(2, 5), BAD);
        due.is("5: edge -1", x.edge(-1, 0), BAD);
        due.is("5: edge -1, attack", x.edge(-1, 5), BAD);
        due.is("5: far out", x.edge(Integer.MAX_VALUE, Integer.MIN_VALUE), BAD);
    }

    private static void clear() {
        PathInterdiction x = Texts.loaded("ab1+1:1 bc2+2:2 cd3+3:3");
        Texts.typeInto(x, "ab");
        x.setAttack(7);
        x.interdict(0, 3, 1);
        int finding = x.finding();
        due.is("6: clear()", x.clear(), 3);
        due.is("6: no edges", x.count(0), 0);
        due.is("6: no attack", x.count(1), 0);
        due.is("6: no cost", x.count(2), 0);
        due.is("6: it is a change", x.count(3), 3);
        due.is("6: the text stays", x.count(4), 2);
        due.is("6: the finding stays", x.finding(), finding);
        due.is("6: a new edge is not attacked", x.addEdge(0, 1, 1, 1, 1), 0);
        due.is("6: not attacked", x.edge(0, 5), 0);
        PathInterdiction y = new PathInterdiction();
        due.is("6: clear() of nothing", y.clear(), 0);
        due.is("6: is a change too", y.count(3), 1);
    }

    private static void objectsAreApart() {
        PathInterdiction x = Texts.loaded("ab1+1:1");
        PathInterdiction y = new PathInterdiction();
        x.interdict(0, 1, 5);
        x.type('a');
        due.is("1: another object has its own edges", y.count(0), 0);
        due.is("1: its own text", y.count(4), 0);
        due.is("1: its own finding", y.finding(), NONE);
        due.is("1: its own history", y.count(3), 0);
    }
}

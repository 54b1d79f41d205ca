/** Promises 11 to 17: attack, setAttack, distance, first, paths, pathLength, tight. */
public final class PathTest {
    private static final int BAD = PathInterdiction.BAD, STATE = PathInterdiction.STATE, NONE = PathInterdiction.NONE;
    private static final int FAR = PathInterdiction.UNREACHABLE;
    private static final int LEAST = Integer.MIN_VALUE, GREATEST = Integer.MAX_VALUE;
    private static final Due due = new Due("PathTest");

    /** Two ways from a to d: by b (5), by c (6), and a long edge (9). */
    private static final String DIAMOND = "ab2+3:1 bd3+x:2 ac3+4:3 cd3+5:4 ad9+9:5";

    private PathTest() {
    }

    public static void main(String[] args) {
        attack();
        setAttack();
        distance();
        first();
        firstAmongEqual();
        paths();
        pathLength();
        manyPaths();
        tight();
        wrongNodes();
        due.end();
    }

    private static void attack() {
        PathInterdiction x = Texts.loaded(DIAMOND);
        due.is("11: attack(1, true)", x.attack(1, true), 2);
        due.is("11: attack(4, true)", x.attack(4, true), 7);
        due.is("11: in it already", x.attack(4, true), STATE);
        due.is("11: not in it", x.attack(0, false), STATE);
        due.is("11: attack(1, false)", x.attack(1, false), 5);
        due.is("11: edge 1 is out", x.edge(1, 5), 0);
        due.is("11: edge 4 is in", x.edge(4, 5), 1);
        due.is("11: no such edge", x.attack(5, true), BAD);
        due.is("11: no such edge, off", x.attack(5, false), BAD);
        due.is("11: edge -1", x.attack(-1, true), BAD);
        due.is("11: edge 36", x.attack(36, false), BAD);
        due.is("11: changes", x.count(3), 4);
    }

    private static void setAttack() {
        PathInterdiction x = Texts.loaded(DIAMOND);
        due.is("12: setAttack of all", x.setAttack(31), 15);
        due.is("12: setAttack of two", x.setAttack(Texts.set(0, 3)), 5);
        due.is("12: edge 0", x.edge(0, 5), 1);
        due.is("12: edge 4", x.edge(4, 5), 0);
        due.is("12: the same again is a change", x.setAttack(Texts.set(0, 3)), 5);
        due.is("12: a set with edge 5", x.setAttack(32), BAD);
        due.is("12: a negative set", x.setAttack(-1), BAD);
        due.is("12: bit 31", x.setAttack(LEAST), BAD);
        due.is("12: the attack stays", x.count(2), 5);
        due.is("12: the empty set", x.setAttack(0), 0);
        due.is("12: changes", x.count(3), 5);
    }

    private static void distance() {
        PathInterdiction x = Texts.loaded(DIAMOND);
        due.is("13: distance(0, 3)", x.distance(0, 3), 5);
        due.is("13: distance(0, 0)", x.distance(0, 0), 0);
        due.is("13: distance(3, 0)", x.distance(3, 0), FAR);
        x.setAttack(Texts.set(0));
        due.is("13: a delayed edge", x.distance(0, 3), 6);
        due.is("13: its own distance", x.distance(0, 1), 5);
        x.setAttack(Texts.set(1));
        due.is("13: a blocked edge", x.distance(0, 3), 6);
        due.is("13: nothing else leads there", x.distance(1, 3), FAR);
        x.setAttack(31);
        due.is("13: all attacked", x.distance(0, 3), 15);
        PathInterdiction y = Texts.loaded("ab99+99:1bc99+99:1cd99+99:1de99+99:1ef99+99:1fg99+99:1gh99+99:1");
        due.is("13: a long way", y.distance(0, 7), 693);
        y.setAttack(127);
        due.is("13: the longest way", y.distance(0, 7), 1386);
    }

    private static void first() {
        PathInterdiction x = Texts.loaded(DIAMOND);
        due.is("14: number of edges", x.first(0, 3, NONE), 2);
        due.is("14: edge 0", x.first(0, 3, 0), 0);
        due.is("14: edge 1", x.first(0, 3, 1), 1);
        due.is("14: edge 2", x.first(0, 3, 2), NONE);
        due.is("14: edge far out", x.first(0, 3, GREATEST), NONE);
        due.is("14: i = -2", x.first(0, 3, -2), BAD);
        due.is("14: i far out", x.first(0, 3, LEAST), BAD);
        due.is("14: no path, number", x.first(3, 0, NONE), NONE);
        due.is("14: no path, edge", x.first(3, 0, 0), NONE);
        due.is("14: no path, wrong i", x.first(3, 0, -2), BAD);
        due.is("14: the empty path", x.first(2, 2, NONE), 0);
        due.is("14: has no edge", x.first(2, 2, 0), NONE);
        x.setAttack(Texts.set(1));
        due.is("14: under an attack", x.first(0, 3, 0), 2);
        due.is("14: under an attack", x.first(0, 3, 1), 3);
    }

    private static void firstAmongEqual() {
        PathInterdiction x = Texts.loaded("ab1+1:1 bd1+1:1 ad2+1:1 ac0+1:1 cd2+1:1");
        due.is("14: the least sequence, not the shortest one", x.first(0, 3, NONE), 2);
        due.is("14: begins with edge 0", x.first(0, 3, 0), 0);
        PathInterdiction y = Texts.loaded("cb1+1:1 ac1+1:1 ab2+1:1");
        due.is("14: compared from the first edge on", y.first(0, 1, 0), 1);
        PathInterdiction z = Texts.loaded("ab0+1:1 ba0+1:1 bc0+1:1 cb0+1:1 ac0+1:1 cd0+1:1");
        due.is("14: a simple one though cycles are free", z.first(0, 3, NONE), 3);
        due.is("14: edge 0", z.first(0, 3, 0), 0);
        due.is("14: edge 1", z.first(0, 3, 1), 2);
        due.is("14: edge 2", z.first(0, 3, 2), 5);
        // Free edges lead from b to c and back to a only: the path by edge 0 has to come back to be shortest.
        PathInterdiction w = Texts.loaded("ab0+1:1 ba0+1:1 ac1+1:1 bc2+1:1");
        due.is("14: no detour over a node twice", w.first(0, 2, NONE), 1);
        due.is("14: but the edge itself", w.first(0, 2, 0), 2);
    }

    private static void paths() {
        PathInterdiction x = Texts.loaded(DIAMOND);
        due.is("15: most 4", x.paths(0, 3, 4), 0);
        due.is("15: most 5", x.paths(0, 3, 5), 1);
        due.is("15: most 6", x.paths(0, 3, 6), 2);
        due.is("15: most 8", x.paths(0, 3, 8), 2);
        due.is("15: most 9", x.paths(0, 3, 9), 3);
        due.is("15: any length", x.paths(0, 3, GREATEST), 3);
        due.is("15: the empty path", x.paths(0, 0, 0), 1);
        due.is("15: none back", x.paths(3, 0, GREATEST), 0);
        due.is("15: most -1", x.paths(0, 3, -1), BAD);
        due.is("15: far out", x.paths(0, 3, LEAST), BAD);
        x.setAttack(Texts.set(1, 2));
        due.is("15: one blocked, one delayed", x.paths(0, 3, 9), 1);
        due.is("15: the delayed one", x.paths(0, 3, 10), 2);
        due.is("15: the blocked one is of no length", x.paths(1, 3, GREATEST), 0);
        PathInterdiction y = Texts.loaded("ab0+1:1 ba0+1:1 ab0+1:1 bc0+1:1 cb0+1:1");
        due.is("15: only simple paths", y.paths(0, 2, 99), 2);
        due.is("15: a cycle is not simple", y.paths(0, 0, 99), 1);
    }

    private static void pathLength() {
        PathInterdiction x = Texts.loaded(DIAMOND);
        due.is("16: k 0", x.pathLength(0, 3, 0), 5);
        due.is("16: k 1", x.pathLength(0, 3, 1), 6);
        due.is("16: k 2", x.pathLength(0, 3, 2), 9);
        due.is("16: k 3", x.pathLength(0, 3, 3), NONE);
        due.is("16: k 99", x.pathLength(0, 3, 99), NONE);
        due.is("16: k 100", x.pathLength(0, 3, 100), BAD);
        due.is("16: k -1", x.pathLength(0, 3, -1), BAD);
        due.is("16: the empty path", x.pathLength(1, 1, 0), 0);
        due.is("16: no other", x.pathLength(1, 1, 1), NONE);
        due.is("16: none back", x.pathLength(3, 0, 0), NONE);
        x.setAttack(Texts.set(0, 1));
        due.is("16: under an attack", x.pathLength(0, 3, 0), 6);
        due.is("16: one is blocked", x.pathLength(0, 3, 2), NONE);
        due.is("16: the only one is blocked", x.pathLength(1, 3, 0), NONE);
    }

    private static void manyPaths() {
        // Four steps with four edges each, of the lengths 3, 2, 1, 0: 256 paths, of the lengths 0 to 12.
        PathInterdiction x = new PathInterdiction();
        for (int e = 0; e < 16; e++) {
            x.addEdge(e / 4, e / 4 + 1, 3 - e % 4, 1, 1);
        }
        due.is("15: 256 paths", x.paths(0, 4, 99), 256);
        int[] upTo = {1, 5, 15, 35, 66, 106, 150};
        for (int most = 0; most < upTo.length; most++) {
            due.is("15: paths of at most " + most, x.paths(0, 4, most), upTo[most]);
        }
        int[] ranks = {0, 1, 4, 5, 14, 15, 34, 35, 65, 66, 99};
        int[] lengths = {0, 1, 1, 2, 2, 3, 3, 4, 4, 5, 5};
        for (int i = 0; i < ranks.length; i++) {
            due.is("16: rank " + ranks[i], x.pathLength(0, 4, ranks[i]), lengths[i]);
        }
        due.is("14: the only path of length 0", x.first(0, 4, 3), 15);
    }

    private static void tight() {
        PathInterdiction x = Texts.loaded(DIAMOND);
        due.is("17: one path", x.tight(0, 3), Texts.set(0, 1));
        x.setEdge(4, 2, 5);
        due.is("17: two paths", x.tight(0, 3), Texts.set(0, 1, 4));
        x.setAttack(Texts.set(4, 1));
        due.is("17: under an attack", x.tight(0, 3), Texts.set(2, 3));
        due.is("17: no path", x.tight(3, 0), 0);
        due.is("17: blocked", x.tight(1, 3), 0);
        due.is("17: s = t", x.tight(0, 0), 0);
        // Free cycles beside the path, at t and at s are on paths that are not simple.
        PathInterdiction y = Texts.loaded("ab1+1:1 bc0+1:1 cb0+1:1 bd0+1:1 de0+1:1 ed0+1:1 af0+1:1 fa0+1:1 bg0+1:1 gb1+1:1");
        due.is("17: paths that are not simple", y.tight(0, 3), Texts.set(0, 1, 2, 3, 4, 5, 6, 7));
        due.is("17: s = t with free cycles", y.tight(1, 1), 0);
        PathInterdiction z = Texts.loaded("ab0+1:1 bc0+x:1 ca0+1:1");
        z.setAttack(2);
        due.is("17: an edge that can't be used", z.tight(0, 1), Texts.set(0));
        PathInterdiction w = Texts.loaded("ab1+1:1 bd1+5:1 ad2+1:1");
        w.setAttack(2);
        due.is("17: edges before a delayed one", w.tight(0, 3), Texts.set(2));
    }

    private static void wrongNodes() {
        PathInterdiction x = Texts.loaded(DIAMOND);
        int[] wrong = {-1, 8, LEAST, GREATEST};
        for (int v : wrong) {
            due.is("13: from " + v, x.distance(v, 0), BAD);
            due.is("13: to " + v, x.distance(0, v), BAD);
            due.is("13: from and to " + v, x.distance(v, v), BAD);
            due.is("14: from " + v, x.first(v, 0, 0), BAD);
            due.is("14: to " + v, x.first(0, v, 0), BAD);
            due.is("15: from " + v, x.paths(v, 0, 1), BAD);
            due.is("15: to " + v, x.paths(0, v, 1), BAD);
            due.is("16: from " + v, x.pathLength(v, 0, 1), BAD);
            due.is("16: to " + v, x.pathLength(0, v, 1), BAD);
            due.is("17: from " + v, x.tight(v, 0), BAD);
            due.is("17: to " + v, x.tight(0, v), BAD);
            due.is("17: from and to " + v, x.tight(v, v), BAD);
        }
    }
}

/** Promises 26 to 29: worth, neverHelps, expected, lost. */
public final class WorthTest {
    private static final int BAD = PathInterdiction.BAD;
    private static final Due due = new Due("WorthTest");

    /** Two ways from a to d: by b (5), by c (6), and a long edge (9). */
    private static final String DIAMOND = "ab2+3:1 bd3+x:2 ac3+4:3 cd3+5:4 ad9+9:5";
    private static final String CHAIN = "ab1+x:1 bc1+x:1 cd1+x:1 de1+x:1 ef1+x:1 fg1+x:1 gh1+x:1";

    private WorthTest() {
    }

    public static void main(String[] args) {
        worth();
        neverHelps();
        chances();
        sixEdges();
        greatSums();
        wrongArguments();
        due.end();
    }

    private static void worth() {
        PathInterdiction x = Texts.loaded(DIAMOND);
        due.is("26: edge 0", x.worth(0, 3, 0), 1);
        due.is("26: edge 1", x.worth(0, 3, 1), 1);
        due.is("26: edge 2", x.worth(0, 3, 2), 0);
        due.is("26: unreachable counts as a number", x.worth(1, 3, 1), 9996);
        due.is("26: s = t", x.worth(0, 0, 0), 0);
        due.is("26: unreachable in any case", x.worth(3, 0, 0), 0);
        x.setAttack(Texts.set(0));
        due.is("26: beside another one", x.worth(0, 3, 2), 2);
        due.is("26: one of the present attack", x.worth(0, 3, 0), 1);
        x.setAttack(Texts.set(0, 2));
        due.is("26: taken out of two", x.worth(0, 3, 0), 3);
        due.is("26: taken out of two", x.worth(0, 3, 2), 2);
        x.setAttack(Texts.set(1));
        due.is("26: a block taken out", x.worth(1, 3, 1), 9996);
        due.is("26: the attack stays", x.count(2), 2);
    }

    private static void neverHelps() {
        PathInterdiction x = Texts.loaded(DIAMOND);
        int[] want = {31, 30, 28, 28, 24, 16};
        for (int budget = 0; budget <= 5; budget++) {
            due.is("27: budget " + budget, x.neverHelps(0, 3, budget), want[budget]);
        }
        due.is("27: s = t", x.neverHelps(0, 0, 5), 31);
        due.is("27: no path", x.neverHelps(3, 0, 5), 31);
        PathInterdiction y = Texts.loaded("ab1+9:2 ab1+9:2 ac1+1:1");
        due.is("27: neither alone", y.neverHelps(0, 1, 3), 7);
        due.is("27: both together", y.neverHelps(0, 1, 4), 4);
    }

    private static void chances() {
        PathInterdiction x = Texts.loaded("ab1+x:1 ab5+3:1");
        due.is("28: two edges", x.expected(0, 1, 3, 3), 81 + 27 * 5 + 27 + 9 * 8);
        due.is("29: never lost", x.lost(0, 1, 3, 3), 0);
        due.is("28: no attack", x.expected(0, 1, 0, 3), 1);
        due.is("28: the second one only", x.expected(0, 1, 2, 3), 12);
        PathInterdiction y = Texts.loaded("ab4+x:1");
        due.is("28: q 5", y.expected(0, 1, 1, 5), 28);
        due.is("29: q 5", y.lost(0, 1, 1, 5), 5);
        due.is("28: q 0", y.expected(0, 1, 1, 0), 48);
        due.is("29: q 0", y.lost(0, 1, 1, 0), 0);
        due.is("28: q 12", y.expected(0, 1, 1, 12), 0);
        due.is("29: q 12", y.lost(0, 1, 1, 12), 12);
        due.is("28: s = t", y.expected(0, 0, 1, 5), 0);
        due.is("29: s = t", y.lost(0, 0, 1, 5), 0);
        due.is("28: no path", y.expected(1, 0, 1, 5), 0);
        due.is("29: no path, all weights", y.lost(1, 0, 1, 5), 12);
        due.is("29: no path, no attack", y.lost(1, 0, 0, 5), 1);
    }

    private static void sixEdges() {
        PathInterdiction x = Texts.loaded(CHAIN);
        due.is("28: six edges", x.expected(0, 6, 63, 5), 117649 * 6);
        due.is("29: six edges", x.lost(0, 6, 63, 5), 2985984 - 117649);
        due.is("28: six others", x.expected(0, 7, 126, 5), 117649 * 7);
        due.is("28: seven edges", x.expected(0, 7, 127, 5), BAD);
        due.is("29: seven edges", x.lost(0, 7, 127, 5), BAD);
    }

    private static void greatSums() {
        PathInterdiction x = new PathInterdiction();
        for (int v = 0; v < 7; v++) {
            x.addEdge(v, v + 1, 99, 99, 1);
        }
        due.is("28: more than an int", x.expected(0, 7, 63, 12), 2985984L * 1287);
        due.is("28: the mean of two", x.expected(0, 7, 63, 6), 2985984L * 990);
    }

    private static void wrongArguments() {
        PathInterdiction x = Texts.loaded(DIAMOND);
        int[] nodes = {-1, 8, Integer.MIN_VALUE, Integer.MAX_VALUE};
        for (int v : nodes) {
            due.is("26: from " + v, x.worth(v, 0, 0), BAD);
            due.is("26: to " + v, x.worth(0, v, 0), BAD);
            due.is("27: from " + v, x.neverHelps(v, 0, 0), BAD);
            due.is("27: to " + v, x.neverHelps(0, v, 0), BAD);
            due.is("28: from " + v, x.expected(v, 0, 0, 0), BAD);
            due.is("28: to " + v, x.expected(0, v, 0, 0), BAD);
            due.is("29: from " + v, x.lost(v, 0, 0, 0), BAD);
            due.is("29: to " + v, x.lost(0, v, 0, 0), BAD);
        }
        int[] edges = {-1, 5, 32, Integer.MIN_VALUE, Integer.MAX_VALUE};
        for (int e : edges) {
            due.is("26: edge " + e, x.worth(0, 3, e), BAD);
        }
        int[] sets = {32, -1, 1 << 31, 1 << 16};
        for (int set : sets) {
            due.is("28: set " + set, x.expected(0, 3, set, 0), BAD);
            due.is("29: set " + set, x.lost(0, 3, set, 0), BAD);
        }
        int[] chances = {-1, 13, Integer.MIN_VALUE, Integer.MAX_VALUE};
        for (int q : chances) {
            due.is("28: q " + q, x.expected(0, 3, 1, q), BAD);
            due.is("29: q " + q, x.lost(0, 3, 1, q), BAD);
        }
        due.is("27: budget 6", x.neverHelps(0, 3, 6), BAD);
        due.is("27: budget -1", x.neverHelps(0, 3, -1), BAD);
    }
}

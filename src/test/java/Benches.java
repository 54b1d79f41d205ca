/** Workbenches in which a trace of a call would be seen: a new one, one in between, and one with all limits reached. */
final class Benches {
    /** Two ways from a to d: by b (5), by c (6), and a long edge (9). */
    static final String DIAMOND = "ab2+3:1 bd3+x:2 ac3+4:3 cd3+5:4 ad9+9:5";
    /** The nodes one after the other; each step has length 1 and can be blocked. */
    static final String CHAIN = "ab1+x:1 bc1+x:1 cd1+x:1 de1+x:1 ef1+x:1 fg1+x:1 gh1+x:1";
    /** A text of 110 bytes, without fault, with as many edges as such a text can have. */
    static final String FULL_TEXT = "ab1+1:1".repeat(15) + "     ";
    /** What is attacked in full(). */
    static final int FULL_ATTACK = 0xA5A5;

    private Benches() {
    }

    static PathInterdiction fresh() {
        return new PathInterdiction();
    }

    /** Five edges, two states, a text of 4 bytes that has a fault, an attack and a finding. */
    static PathInterdiction some() {
        PathInterdiction x = Texts.loaded(DIAMOND);
        x.setAttack(Texts.set(0, 2));
        x.interdict(0, 3, 5);
        Texts.typeInto(x, "cd1+");
        return x;
    }

    /** 16 edges, 12 states that all differ in their counts, 110 bytes, an attack and a finding. */
    static PathInterdiction full() {
        PathInterdiction x = new PathInterdiction();
        for (int e = 0; e < 15; e++) {
            addTo(x, e);
        }
        x.setAttack(FULL_ATTACK & 0x7fff);
        addTo(x, 15);
        x.setAttack(FULL_ATTACK);
        x.interdict(0, 4, 5);
        Texts.typeInto(x, FULL_TEXT);
        return x;
    }

    private static void addTo(PathInterdiction x, int e) {
        int delay = e % 3 == 2 ? PathInterdiction.BLOCK : 1 + 6 * e;
        x.addEdge(e % 8, (e % 8 + 1 + e / 8) % 8, 6 * e + 9, delay, 1 + e % 9);
    }

    /** The properties of all edges, as edge() tells them. */
    static int[][] table(PathInterdiction x) {
        int[][] table = new int[x.count(0)][6];
        for (int e = 0; e < table.length; e++) {
            for (int what = 0; what <= 5; what++) {
                table[e][what] = x.edge(e, what);
            }
        }
        return table;
    }

    /** 16 edges from a to b: edge e has the length e, can be blocked and costs what is given. */
    static PathInterdiction ladder(int cost) {
        PathInterdiction x = new PathInterdiction();
        for (int e = 0; e < 16; e++) {
            x.addEdge(0, 1, e, PathInterdiction.BLOCK, cost);
        }
        return x;
    }
}

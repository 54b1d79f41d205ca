/** Promise 32: digest. */
final class Promise32 {
    private static final int FAR = PathInterdiction.UNREACHABLE, NONE = PathInterdiction.NONE;

    private Promise32() {
    }

    static void tell(Section promise) {
        promise.says("Returns a digest.", due -> Ask.question(due, PathInterdiction::digest));
        promise.says("It begins with h = 61; for each of the following numbers v, in this order, h becomes 31 * h + v, "
            + "in long arithmetic with overflow: count(0) to count(6)", Promise32::ofNewObject);
        promise.says("for each edge, edge(e, 0) to edge(e, 5)", Promise32::ofOneEdge);
        promise.says("for s = 0 to 7 and for each of them t = 0 to 7, distance(s, t)", Promise32::ofDistances);
        promise.says("finding()", Promise32::ofFinding);
        promise.says("the bytes of the text", Promise32::ofText);
        promise.says("Returns h.", Promise32::ofFullOne);
    }

    private static long put(long h, int... numbers) {
        for (int v : numbers) {
            h = 31 * h + v;
        }
        return h;
    }

    /** The distances of a graph with one edge; a length below 0 stands for no edge. */
    private static long putDistances(long h, int from, int to, int length) {
        for (int s = 0; s < 8; s++) {
            for (int t = 0; t < 8; t++) {
                h = put(h, s == t ? 0 : s == from && t == to && length >= 0 ? length : FAR);
            }
        }
        return h;
    }

    private static void ofNewObject(Due due) {
        long h = put(putDistances(put(61, 0, 0, 0, 0, 0, 0, 0), 0, 0, -1), NONE);
        due.is("a new object", new PathInterdiction().digest(), h);
    }

    private static void ofOneEdge(Due due) {
        PathInterdiction x = new PathInterdiction();
        x.addEdge(7, 2, 99, 98, 9);
        long h = put(put(61, 1, 0, 0, 1, 0, 99, 1), 7, 2, 99, 98, 9, 0);
        due.is("an edge", x.digest(), put(putDistances(h, 7, 2, 99), NONE));
        x.setAttack(1);
        h = put(put(61, 1, 1, 9, 2, 0, 99, 1), 7, 2, 99, 98, 9, 1);
        due.is("attacked", x.digest(), put(putDistances(h, 7, 2, 197), NONE));
        x.setEdge(0, 3, PathInterdiction.BLOCK);
        h = put(put(61, 1, 1, 9, 3, 0, 99, 0), 7, 2, 99, 100, 9, 1);
        due.is("blocked", x.digest(), put(putDistances(h, 7, 2, -1), NONE));
        x.clear();
        h = put(61, 0, 0, 0, 4, 0, 0, 0);
        due.is("removed", x.digest(), put(putDistances(h, 7, 2, -1), NONE));
    }

    private static void ofDistances(Due due) {
        for (int s = 0; s < 8; s++) {
            for (int t = 0; t < 8; t++) {
                if (s != t) {
                    PathInterdiction x = new PathInterdiction();
                    x.addEdge(s, t, 0, 1, 1);
                    long h = put(put(61, 1, 0, 0, 1, 0, 0, 1), s, t, 0, 1, 1, 0);
                    due.is("an edge from " + s + " to " + t, x.digest(), put(putDistances(h, s, t, 0), NONE));
                }
            }
        }
    }

    private static void ofFinding(Due due) {
        PathInterdiction x = new PathInterdiction();
        x.addEdge(0, 1, 5, 1, 1);
        long h = putDistances(put(put(61, 1, 0, 0, 1, 0, 5, 1), 0, 1, 5, 1, 1, 0), 0, 1, 5);
        due.is("nothing found", x.digest(), put(h, NONE));
        x.interdict(0, 1, 0);
        due.is("the empty set found", x.digest(), put(h, 0));
        x.interdict(0, 1, 5);
        due.is("a set found", x.digest(), put(h, 1));
    }

    private static void ofText(Due due) {
        PathInterdiction x = new PathInterdiction();
        x.type(0);
        due.is("byte 0", x.digest(), put(putDistances(put(61, 0, 0, 0, 0, 1, 0, 0), 0, 0, -1), NONE, 0));
        x.type(127);
        x.type('a');
        due.is("three bytes", x.digest(), put(putDistances(put(61, 0, 0, 0, 0, 3, 0, 0), 0, 0, -1), NONE, 0, 127, 97));
        x.clearText();
        due.is("no byte", x.digest(), put(putDistances(put(61, 0, 0, 0, 0, 0, 0, 0), 0, 0, -1), NONE));
        PathInterdiction y = Texts.typed(Benches.FULL_TEXT);
        long h = put(putDistances(put(61, 0, 0, 0, 0, 110, 0, 0), 0, 0, -1), NONE);
        for (char c : Benches.FULL_TEXT.toCharArray()) {
            h = put(h, c);
        }
        due.is("110 bytes", y.digest(), h);
    }

    private static void ofFullOne(Due due) {
        PathInterdiction x = Benches.full();
        long h = 61;
        for (int what = 0; what <= 6; what++) {
            h = put(h, x.count(what));
        }
        for (int e = 0; e < 16; e++) {
            for (int what = 0; what <= 5; what++) {
                h = put(h, x.edge(e, what));
            }
        }
        for (int st = 0; st < 64; st++) {
            h = put(h, x.distance(st / 8, st % 8));
        }
        h = put(h, x.finding());
        for (char c : Benches.FULL_TEXT.toCharArray()) {
            h = put(h, c);
        }
        due.is("a full one", x.digest(), h);
    }
}

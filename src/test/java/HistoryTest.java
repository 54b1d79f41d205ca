/** Promises 30 to 32: undo, count, digest. */
public final class HistoryTest {
    private static final int BAD = PathInterdiction.BAD, STATE = PathInterdiction.STATE, NONE = PathInterdiction.NONE;
    private static final Due due = new Due("HistoryTest");

    private HistoryTest() {
    }

    public static void main(String[] args) {
        undoOfEachChange();
        atMostTwelve();
        whatIsNoState();
        count();
        digest();
        digestNotices();
        due.end();
    }

    private static void undoOfEachChange() {
        PathInterdiction x = Texts.loaded("ab1+2:3 bc4+x:6 cd7+8:9");
        x.setAttack(5);
        long before = x.digest();
        due.is("30: addEdge", x.addEdge(0, 1, 1, 1, 1), 3);
        due.is("30: undo of addEdge", x.undo(), 2);
        due.is("30: state", x.digest(), before);
        due.is("30: removeEdge", x.removeEdge(0), 2);
        due.is("30: undo of removeEdge", x.undo(), 2);
        due.is("30: state", x.digest(), before);
        due.is("30: setEdge", x.setEdge(2, 3, 11), 8);
        due.is("30: undo of setEdge", x.undo(), 2);
        due.is("30: state", x.digest(), before);
        due.is("30: attack", x.attack(1, true), 18);
        due.is("30: undo of attack", x.undo(), 2);
        due.is("30: state", x.digest(), before);
        due.is("30: setAttack", x.setAttack(0), 0);
        due.is("30: undo of setAttack", x.undo(), 2);
        due.is("30: state", x.digest(), before);
        due.is("30: clear", x.clear(), 3);
        due.is("30: undo of clear", x.undo(), 2);
        due.is("30: state", x.digest(), before);
        due.is("30: load", x.load(), 0);
        due.is("30: undo of load", x.undo(), 2);
        due.is("30: state", x.digest(), before);
        due.is("30: undo of the first setAttack", x.undo(), 1);
        due.is("30: no attack", x.count(1), 0);
        due.is("30: undo of the first load", x.undo(), 0);
        due.is("30: no edges", x.count(0), 0);
        due.is("30: nothing left", x.undo(), STATE);
        due.is("30: nothing left still", x.undo(), STATE);
    }

    private static void atMostTwelve() {
        PathInterdiction x = new PathInterdiction();
        for (int i = 0; i < 15; i++) {
            x.addEdge(0, 1, i, 1, 1);
            due.is("30: states after " + (i + 1) + " changes", x.count(3), Math.min(12, i + 1));
        }
        for (int left = 11; left >= 4; left--) {
            due.is("30: states left", x.undo(), left);
            due.is("30: edges left", x.count(0), left + 3);
        }
        x.setAttack(1);
        x.setAttack(2);
        due.is("30: states after some more", x.count(3), 6);
        for (int left = 5; left >= 0; left--) {
            due.is("30: states left then", x.undo(), left);
        }
        due.is("30: the oldest states are gone", x.undo(), STATE);
        due.is("30: the state before the 4th change", x.count(0), 3);
        due.is("30: its last edge", x.edge(2, 2), 2);
        for (int i = 0; i < 40; i++) {
            x.setEdge(0, 2, i);
        }
        for (int left = 11; left >= 0; left--) {
            due.is("30: after many changes", x.undo(), left);
            due.is("30: length then", x.edge(0, 2), 27 + left);
        }
    }

    private static void whatIsNoState() {
        PathInterdiction x = Texts.loaded("ab1+2:3");
        x.attack(0, true);
        x.type('a');
        x.type('b');
        x.interdict(0, 1, 3);
        x.clearText();
        x.type('c');
        due.is("30: only changes are recorded", x.count(3), 2);
        x.undo();
        due.is("30: the text is no part of the state", x.count(4), 1);
        due.is("30: nor is the finding", x.finding(), 1);
        x.undo();
        due.is("30: nor then", x.finding(), 1);
        due.is("30: an undo is not recorded", x.undo(), STATE);
    }

    private static void count() {
        PathInterdiction x = Texts.loaded("ab1+2:3 bc4+x:6 ca7+8:9 de10+x:1");
        x.setAttack(Texts.set(0, 1));
        Texts.typeInto(x, "abc");
        int[] want = {4, 2, 9, 2, 3, 22, 4};
        for (int what = 0; what < want.length; what++) {
            due.is("31: count(" + what + ")", x.count(what), want[what]);
        }
        x.setAttack(0);
        due.is("31: pairs under no attack", x.count(6), 7);
        x.setAttack(15);
        due.is("31: pairs under all attacks", x.count(6), 3);
        due.is("31: lengths under all attacks", x.count(5), 22);
        due.is("31: count(-1)", x.count(-1), BAD);
        due.is("31: count(7)", x.count(7), BAD);
        due.is("31: far out", x.count(Integer.MIN_VALUE), BAD);
        due.is("31: far out", x.count(Integer.MAX_VALUE), BAD);
        PathInterdiction y = Texts.loaded("ab1+1:1bc1+1:1cd1+1:1de1+1:1ef1+1:1fg1+1:1gh1+1:1ha1+1:1");
        due.is("31: all pairs", y.count(6), 56);
    }

    private static void digest() {
        PathInterdiction x = new PathInterdiction();
        due.is("32: a new object", x.digest(), byHand(x, ""));
        Texts.typeInto(x, "ab1+2:3 bc4+x:6 ca7+8:9");
        x.load();
        due.is("32: three edges", x.digest(), byHand(x, ""));
        x.setAttack(3);
        x.interdict(0, 2, 5);
        Texts.typeInto(x, "a\u007f\0");
        due.is("32: all parts", x.digest(), byHand(x, "a\u007f\0"));
        due.is("32: asked again", x.digest(), byHand(x, "a\u007f\0"));
    }

    private static long byHand(PathInterdiction x, String text) {
        long h = 61;
        for (int what = 0; what <= 6; what++) {
            h = h * 31 + x.count(what);
        }
        for (int e = 0; e < x.count(0); e++) {
            for (int what = 0; what <= 5; what++) {
                h = h * 31 + x.edge(e, what);
            }
        }
        for (int st = 0; st < 64; st++) {
            h = h * 31 + x.distance(st / 8, st % 8);
        }
        h = h * 31 + x.finding();
        for (char c : text.toCharArray()) {
            h = h * 31 + c;
        }
        return h;
    }

    private static void digestNotices() {
        PathInterdiction x = Texts.loaded("ab1+2:3 bc4+x:6");
        long before = x.digest();
        x.type(0);
        long typed = x.digest();
        due.holds("32: it notices a byte 0", typed != before);
        x.interdict(0, 1, 0);
        due.holds("32: it notices a finding", x.digest() != typed);
        x.clearText();
        due.is("32: the finding stands for itself", x.finding(), 0);
        due.holds("32: NONE and 0 are different findings", x.digest() != before);
    }
}

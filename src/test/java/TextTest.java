/** Promises 7 to 10: type, clearText, fault, load. */
public final class TextTest {
    private static final int BAD = PathInterdiction.BAD, STATE = PathInterdiction.STATE, NONE = PathInterdiction.NONE;
    private static final Due due = new Due("TextTest");

    private TextTest() {
    }

    public static void main(String[] args) {
        type();
        clearText();
        noFault();
        faultAtByte();
        faultAtEnd();
        faultOfMeaning();
        fullTexts();
        load();
        loadFaulty();
        due.end();
    }

    private static void type() {
        PathInterdiction x = new PathInterdiction();
        due.is("7: byte 0", x.type(0), 1);
        due.is("7: byte 127", x.type(127), 2);
        due.is("7: byte 128", x.type(128), BAD);
        due.is("7: byte -1", x.type(-1), BAD);
        due.is("7: far out", x.type(Integer.MAX_VALUE), BAD);
        due.is("7: far out", x.type(Integer.MIN_VALUE), BAD);
        due.is("7: errors append nothing", x.count(4), 2);
        for (int size = 3; size <= 110; size++) {
            due.is("7: byte of index " + (size - 1), x.type(32), size);
        }
        due.is("7: a byte too many", x.type(32), PathInterdiction.FULL);
        due.is("7: BAD comes before FULL", x.type(128), BAD);
        due.is("7: the length stays", x.count(4), 110);
        due.is("7: typing is no change", x.count(3), 0);
    }

    private static void clearText() {
        PathInterdiction x = Texts.typed("ab1");
        due.is("8: clearText()", x.clearText(), 3);
        due.is("8: empty", x.count(4), 0);
        due.is("8: no fault", x.fault(), NONE);
        due.is("8: clearText() again", x.clearText(), 0);
        due.is("8: type again", x.type('a'), 1);
        due.is("8: the new text counts", x.fault(), 1);
        due.is("8: no change", x.count(3), 0);
    }

    private static void fault(String text, int want) {
        PathInterdiction x = Texts.typed(text);
        due.is("9: fault of '" + text + "'", x.fault(), want);
        due.is("9: fault of '" + text + "', asked again", x.fault(), want);
    }

    private static void noFault() {
        fault("", NONE);
        fault(" ", NONE);
        fault("    ", NONE);
        fault("ab1+1:1", NONE);
        fault("ha0+x:9", NONE);
        fault("ab00+01:1", NONE);
        fault("ab09+10:1", NONE);
        fault("ab99+99:9", NONE);
        fault("ab1+1:1ba1+1:1", NONE);
        fault("ab1+1:1ab1+1:1", NONE);
        fault("  a  b  12  +  34  :  5  ", NONE);
        fault(" a b 1 + x : 9 c d 2 + 3 : 4 ", NONE);
    }

    private static void faultAtByte() {
        fault("ib1+1:1", 0);
        fault("Ab1+1:1", 0);
        fault("`b1+1:1", 0);
        fault("1", 0);
        fault("  x", 2);
        fault("a1", 1);
        fault("ai1+1:1", 1);
        fault("a`1+1:1", 1);
        fault("abc", 2);
        fault("ab+1:1", 2);
        fault("abx+1:1", 2);
        fault("ab-1+1:1", 2);
        fault("ab123+1:1", 4);
        fault("ab1 2+1:1", 4);
        fault("ab1x", 3);
        fault("ab1:1", 3);
        fault("ab1++", 4);
        fault("ab1+:", 4);
        fault("ab1+y", 4);
        fault("ab1+X", 4);
        fault("ab1+x1", 5);
        fault("ab1+xx", 5);
        fault("ab1+123", 6);
        fault("ab1+1 2", 6);
        fault("ab1+1+", 5);
        fault("ab1+1:0", 6);
        fault("ab1+1:x", 6);
        fault("ab1+1::", 6);
        fault("ab1+1:12", 7);
        fault("ab1+1:1+", 7);
        fault("ab1+1:1 i", 8);
        fault("ab1+1:1,cd", 7);
        fault("\tab", 0);
        fault("a\0", 1);
        fault("ab1+1:1\n", 7);
        fault("ab/", 2);
        fault("ab:", 2);
        fault("ab1+1:/", 6);
    }

    private static void faultAtEnd() {
        fault("a", 1);
        fault("a ", 2);
        fault("ab", 2);
        fault("ab1", 3);
        fault("ab12", 4);
        fault("ab12 ", 5);
        fault("ab1+", 4);
        fault("ab1+ ", 5);
        fault("ab1+1", 5);
        fault("ab1+12", 6);
        fault("ab1+x", 5);
        fault("ab1+1:", 6);
        fault("ab1+1:  ", 8);
        fault("ab1+1:1c", 8);
    }

    private static void faultOfMeaning() {
        fault("aa1+1:1", 1);
        fault("a  a1+1:1", 3);
        fault("hh", 1);
        fault("ab1+1:1bb", 8);
        fault("ab1+0:1", 4);
        fault("ab1+00:1", 5);
        fault("ab1+ 00 :1", 6);
        fault("ab1+000:1", 5);
        fault("ab1+0", 4);
        fault("ab1+00", 5);
        fault("ab1+0x", 4);
        fault("ab1+0 1", 4);
        fault("ab1+0:", 4);
        fault("ab0+1:1", NONE);
    }

    private static void fullTexts() {
        String fifteen = "ab1+1:1".repeat(15);
        fault(fifteen + "     ", NONE);
        fault(fifteen + "ab1+1", 110);
        fault(fifteen + "ab1+1:1", 110);
        fault(fifteen + "abx+1", 107);
    }

    private static void load() {
        PathInterdiction x = new PathInterdiction();
        x.addEdge(5, 6, 7, 8, 9);
        x.setAttack(1);
        Texts.typeInto(x, " a h 01+ 02:3  hb99+x:9bc0+99 :1 ");
        due.is("10: load()", x.load(), 3);
        int[][] want = {{0, 7, 1, 2, 3, 0}, {7, 1, 99, 100, 9, 0}, {1, 2, 0, 99, 1, 0}};
        for (int e = 0; e < want.length; e++) {
            for (int what = 0; what <= 5; what++) {
                due.is("10: edge(" + e + ", " + what + ")", x.edge(e, what), want[e][what]);
            }
        }
        due.is("10: the old edges are gone", x.count(0), 3);
        due.is("10: the text is empty", x.count(4), 0);
        due.is("10: the attack is empty", x.count(1), 0);
        due.is("10: it is a change", x.count(3), 3);
        due.is("10: load() of the empty text", x.load(), 0);
        due.is("10: no edges", x.count(0), 0);
        due.is("10: a change too", x.count(3), 4);
        due.is("10: undo of a load", x.undo(), 3);
        due.is("10: the edges are back", x.count(0), 3);
        due.is("10: the text is not", x.count(4), 0);
        due.is("10: blanks alone", Texts.typed("  ").load(), 0);
        due.is("10: fifteen edges", Texts.typed("ab1+1:1".repeat(15)).load(), 15);
    }

    private static void loadFaulty() {
        PathInterdiction x = Texts.loaded("ab1+1:1");
        x.setAttack(1);
        Texts.typeInto(x, "cd1+1:1 de1+0:1");
        due.is("10: a faulty text", x.load(), STATE);
        due.is("10: the text stays", x.count(4), 15);
        due.is("10: its fault stays", x.fault(), 12);
        due.is("10: the edges stay", x.count(0), 1);
        due.is("10: as they were", x.edge(0, 0), 0);
        due.is("10: the attack stays", x.count(1), 1);
        due.is("10: no change", x.count(3), 2);
    }
}

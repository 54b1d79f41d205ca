/** The terms: the text, what it may hold, and where its fault is. */
final class TermsText {
    private static final int FULL = PathInterdiction.FULL, NONE = PathInterdiction.NONE;

    private TermsText() {
    }

    static void tell(Section terms) {
        terms.says("There is a text of at most 110 bytes, which describes a graph", TermsText::atMost110);
        terms.says("graph = { edge }", TermsText::manyEdges);
        terms.says("edge = node node number \"+\" ( number | \"x\" ) \":\" digit", TermsText::eachByteAtEachPlace);
        terms.says("A node is a letter from a to h, for the nodes 0 to 7", TermsText::letters);
        terms.says("and the two nodes of an edge are different", TermsText::differentNodes);
        terms.says("they are those from which it leads and to which it leads", TermsText::direction);
        terms.says("The number before \"+\" is the length, that after it the delay (\"x\" for BLOCK), and the digit, 1 to 9, "
            + "the cost.", TermsText::values);
        terms.says("A number has one or two digits, as many as there are", TermsText::digits);
        terms.says("a delay must not be 0", TermsText::delayNotZero);
        terms.says("Blanks (byte 32) can stand before and after each of these parts.", TermsText::blanks);
        terms.says("The fault of a text is the index, from 0, of the first byte that cannot stand at its place",
            TermsText::firstWrongByte);
        terms.says("this is also the second node of an edge if it is equal to the first one", TermsText::secondNode);
        terms.says("the first node of a 17th edge", TermsText::noSeventeenth);
        terms.says("and the last digit of a delay that is 0", TermsText::lastDigitOfZero);
        terms.says("it is the length of the text if the text ends too early", TermsText::endsTooEarly);
    }

    private static void fault(Due due, String text, int want) {
        due.is("fault of '" + text + "'", Texts.typed(text).fault(), want);
    }

    private static void atMost110(Due due) {
        PathInterdiction x = Texts.typed(Benches.FULL_TEXT);
        due.is("110 bytes", x.count(4), 110);
        due.is("one more", x.type(' '), FULL);
        due.is("they describe a graph", x.load(), 15);
        PathInterdiction y = Texts.typed("a b 12 + 34 : 5 ".repeat(6) + "ab12+34:5 ".repeat(2));
        due.is("the last bytes are refused", y.count(4), 110);
        due.is("and no part of the text", y.fault(), 110);
    }

    private static void manyEdges(Due due) {
        for (int edges = 0; edges <= 15; edges++) {
            fault(due, "ab1+1:1".repeat(edges), NONE);
        }
        fault(due, "ab1+1:1cd12+34:5ef0+x:9", NONE);
    }

    /** What may follow on a beginning of a text, tried with all bytes; the text is not complete then. */
    private static void follows(Due due, String start, String allowed) {
        completes(due, start, "", allowed);
    }

    /** Some bytes may follow and leave the text without fault, after others it ends too early. */
    private static void completes(Due due, String start, String last, String allowed) {
        for (int b = 0; b <= 127; b++) {
            String text = start + (char) b;
            int stands = allowed.indexOf(b) >= 0 ? text.length() : start.length();
            due.is("byte " + b + " after '" + start + "'", Texts.typed(text).fault(), last.indexOf(b) >= 0 ? NONE : stands);
        }
    }

    private static void eachByteAtEachPlace(Due due) {
        String digits = "0123456789";
        follows(due, "c", "abdefgh ");
        follows(due, "c ", "abdefgh ");
        follows(due, "cd", digits + " ");
        follows(due, "cd ", digits + " ");
        follows(due, "cd1", digits + "+ ");
        follows(due, "cd0", digits + "+ ");
        follows(due, "cd1 ", "+ ");
        follows(due, "cd12", "+ ");
        follows(due, "cd12+", "123456789x ");
        follows(due, "cd12+ ", "123456789x ");
        follows(due, "cd12+3", digits + ": ");
        follows(due, "cd12+3 ", ": ");
        follows(due, "cd12+34", ": ");
        follows(due, "cd12+x", ": ");
        follows(due, "cd12+x ", ": ");
        completes(due, "cd12+34:", "123456789", " ");
        completes(due, "cd12+34: ", "123456789", " ");
        completes(due, "", " ", "abcdefgh");
        completes(due, " ", " ", "abcdefgh");
        completes(due, "cd12+34:5", " ", "abcdefgh");
        completes(due, "cd12+34:5 ", " ", "abcdefgh");
        completes(due, "cd1+x:9", " ", "abcdefgh");
    }

    private static void letters(Due due) {
        for (int from = 0; from < 8; from++) {
            for (int to = 0; to < 8; to++) {
                if (from != to) {
                    PathInterdiction x = Texts.typed("" + (char) ('a' + from) + (char) ('a' + to) + "1+1:1");
                    due.is("load()", x.load(), 1);
                    due.is("from", x.edge(0, 0), from);
                    due.is("to", x.edge(0, 1), to);
                }
            }
        }
        fault(due, "`a1+1:1", 0);
        fault(due, "ia1+1:1", 0);
        fault(due, "a`1+1:1", 1);
        fault(due, "ai1+1:1", 1);
        fault(due, "Ab1+1:1", 0);
        fault(due, "aB1+1:1", 1);
    }

    private static void differentNodes(Due due) {
        for (char c = 'a'; c <= 'h'; c++) {
            fault(due, "" + c + c + "1+1:1", 1);
        }
        fault(due, "ab1+1:1ba1+1:1", NONE);
        fault(due, "ab1+1:1bc1+1:1", NONE);
    }

    private static void direction(Due due) {
        PathInterdiction x = Texts.loaded("ha5+1:1");
        due.is("from h to a", x.distance(7, 0), 5);
        due.is("not back", x.distance(0, 7), PathInterdiction.UNREACHABLE);
    }

    private static void values(Due due) {
        for (int number = 0; number <= 99; number++) {
            PathInterdiction x = Texts.loaded("ab" + number + "+1:1");
            due.is("length " + number, x.edge(0, 2), number);
            if (number > 0) {
                PathInterdiction y = Texts.loaded("ab1+" + number + ":1");
                due.is("delay " + number, y.edge(0, 3), number);
            }
        }
        due.is("delay x", Texts.loaded("ab1+x:1").edge(0, 3), PathInterdiction.BLOCK);
        for (int cost = 1; cost <= 9; cost++) {
            due.is("cost " + cost, Texts.loaded("ab1+1:" + cost).edge(0, 4), cost);
        }
        fault(due, "ab1+1:0", 6);
    }

    private static void digits(Due due) {
        fault(due, "ab1+1:1", NONE);
        fault(due, "ab12+12:1", NONE);
        fault(due, "ab00+01:1", NONE);
        fault(due, "ab123+1:1", 4);
        fault(due, "ab000+1:1", 4);
        fault(due, "ab1+123:1", 6);
        fault(due, "ab1+100:1", 6);
        fault(due, "ab1 2+1:1", 4);
        fault(due, "ab1+1 2:1", 6);
        fault(due, "ab1+1:12", 7);
        fault(due, "ab+1:1", 2);
        fault(due, "ab1+:1", 4);
        due.is("two digits are one number", Texts.loaded("ab12+34:5").edge(0, 2), 12);
        due.is("a 0 before a digit", Texts.loaded("ab05+07:5").edge(0, 3), 7);
        due.is("a length 00", Texts.loaded("ab00+07:5").edge(0, 2), 0);
    }

    private static void delayNotZero(Due due) {
        fault(due, "ab1+0:1", 4);
        fault(due, "ab1+00:1", 5);
        fault(due, "ab1+1:1", NONE);
        fault(due, "ab1+01:1", NONE);
        fault(due, "ab1+10:1", NONE);
        fault(due, "ab0+1:1", NONE);
        fault(due, "ab00+1:1", NONE);
    }

    private static void blanks(Due due) {
        String[] parts = {"a", "b", "12", "+", "34", ":", "5", "c", "d", "0", "+", "x", ":", "9"};
        for (int gap = 0; gap <= parts.length; gap++) {
            for (int many = 1; many <= 20; many += 19) {
                StringBuilder text = new StringBuilder();
                for (int i = 0; i <= parts.length; i++) {
                    text.append(i == gap ? " ".repeat(many) : "").append(i < parts.length ? parts[i] : "");
                }
                fault(due, text.toString(), NONE);
                due.is("two edges", Texts.loaded(text.toString()).count(0), 2);
            }
        }
        for (int b : new int[] {0, 9, 10, 13, 31, 33, 127}) {
            fault(due, "a" + (char) b + "b1+1:1", 1);
            fault(due, (char) b + "ab1+1:1", 0);
            fault(due, "ab1+1:1" + (char) b, 7);
        }
        fault(due, "ab1 1+1:1", 4);
        fault(due, "ab1+1 1:1", 6);
    }

    private static void firstWrongByte(Due due) {
        fault(due, "!", 0);
        fault(due, "!!", 0);
        fault(due, "ab1+1:1!", 7);
        fault(due, "ab1+1:1!!", 7);
        fault(due, "aa0+0:0", 1);
        fault(due, "ab1+0:0", 4);
        fault(due, "ab1+1:1 ab1+1:1 abx", 18);
        fault(due, " ".repeat(109) + "!", 109);
    }

    private static void secondNode(Due due) {
        fault(due, "aa", 1);
        fault(due, "a a", 2);
        fault(due, "a    a", 5);
        fault(due, " hh", 2);
        fault(due, "ab1+1:1bb", 8);
        fault(due, "ab1+1:1 b b1+1:1", 10);
        fault(due, "aai", 1);
    }

    /** A text cannot have so many: even 16 edges take 112 bytes. */
    private static void noSeventeenth(Due due) {
        fault(due, "ab1+1:1".repeat(15) + "ab1+1", 110);
        fault(due, "ab1+x:1".repeat(15) + "ab1+x", 110);
        PathInterdiction x = Texts.typed("ab1+x:1".repeat(16));
        due.is("the bytes that are taken", x.clearText(), 110);
        due.is("whole edges alone", Texts.loaded("ab1+x:1".repeat(15)).count(0), 15);
    }

    private static void lastDigitOfZero(Due due) {
        fault(due, "ab1+0:1", 4);
        fault(due, "ab1+00:1", 5);
        fault(due, "ab1+ 0 :1", 5);
        fault(due, "ab1+ 00 :1", 6);
        fault(due, "ab12+0:1", 5);
        fault(due, "ab1+000:1", 5);
        fault(due, "ab1+0", 4);
        fault(due, "ab1+00", 5);
        fault(due, "ab1+0 ", 4);
        fault(due, "ab1+0x", 4);
        fault(due, "ab1+0!", 4);
        fault(due, "ab1+00!", 5);
    }

    private static void endsTooEarly(Due due) {
        String whole = "ab12+34:5";
        for (String before : new String[] {"", " ", "cd1+x:9", "cd1+x:9 "}) {
            for (int cut = 1; cut < whole.length(); cut++) {
                String text = before + whole.substring(0, cut);
                fault(due, text, text.length());
                fault(due, text + " ", text.length() + 1);
                fault(due, text + "   ", text.length() + 3);
            }
            fault(due, before + whole, NONE);
        }
        fault(due, "ab1+x", 5);
        fault(due, "ab1+x:", 6);
        fault(due, "a" + " ".repeat(109), 110);
        fault(due, " ".repeat(109) + "a", 110);
    }
}

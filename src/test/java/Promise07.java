/** Promise 7: type. */
final class Promise07 {
    private static final int BAD = PathInterdiction.BAD, FULL = PathInterdiction.FULL;

    private Promise07() {
    }

    static void tell(Section promise) {
        promise.says("Appends a byte to the text.", Promise07::appends);
        promise.says("`letter`: the byte, 0 to 127", due -> Ask.range(due, 0, 127, PathInterdiction::type));
        promise.says("Returns the length of the text", Promise07::answersLength);
        promise.says("BAD", Promise07::badComesFirst);
        promise.says("FULL if the text has 110 bytes", Promise07::fullAt110);
    }

    private static void appends(Due due) {
        PathInterdiction x = Texts.typed("ab1+1:");
        due.is("too short", x.fault(), 6);
        x.type('9');
        due.is("complete", x.fault(), PathInterdiction.NONE);
        due.is("no change", x.count(3), 0);
        x.load();
        due.is("the last byte counts", x.edge(0, 4), 9);
        for (int letter = 0; letter <= 127; letter++) {
            PathInterdiction y = Texts.typed("a");
            long before = y.digest();
            due.is("byte " + letter, y.type(letter), 2);
            // count(4) and the last number of the digest are all that is different: the length adds 1 in a place
            // that has as many numbers behind it as the old digest had, and one more.
            long one = 1;
            for (int behind = 0; behind < 2 + 64 + 1 + 1; behind++) {
                one *= 31;
            }
            due.is("the digest then", y.digest(), 31 * (before + one) + letter);
        }
    }

    private static void answersLength(Due due) {
        PathInterdiction x = new PathInterdiction();
        for (int size = 1; size <= 110; size++) {
            due.is("byte " + size, x.type(size), size);
            due.is("count(4)", x.count(4), size);
        }
    }

    private static void badComesFirst(Due due) {
        Ask.refuses(due, "byte 128", BAD, Benches::full, x -> x.type(128));
        Ask.refuses(due, "byte -1", BAD, Benches::full, x -> x.type(-1));
        Ask.refuses(due, "byte 128", BAD, Benches::fresh, x -> x.type(128));
        Ask.refuses(due, "byte -1", BAD, Benches::fresh, x -> x.type(-1));
    }

    private static void fullAt110(Due due) {
        Ask.refuses(due, "the first byte there is", FULL, Benches::full, x -> x.type(0));
        Ask.refuses(due, "a blank", FULL, Benches::full, x -> x.type(' '));
        Ask.refuses(due, "the last byte there is", FULL, Benches::full, x -> x.type(127));
        PathInterdiction x = new PathInterdiction();
        Texts.typeInto(x, Benches.FULL_TEXT.substring(1));
        due.is("109 bytes", x.count(4), 109);
        due.is("the 110th byte", x.type('a'), 110);
        due.is("the 111th byte", x.type('a'), FULL);
        due.is("clearText()", x.clearText(), 110);
        due.is("room again", x.type('a'), 1);
    }
}

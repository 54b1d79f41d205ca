/** Promise 8: clearText. */
final class Promise08 {
    private Promise08() {
    }

    static void tell(Section promise) {
        promise.says("Empties the text.", Promise08::empties);
        promise.says("Returns the length that it had.", Promise08::answersLength);
    }

    private static void empties(Due due) {
        PathInterdiction x = Benches.full();
        PathInterdiction y = Benches.full();
        x.clearText();
        due.is("its length", x.count(4), 0);
        due.is("its fault", x.fault(), PathInterdiction.NONE);
        Texts.typeInto(x, Benches.FULL_TEXT);
        Ask.sameInAll(due, "cleared and typed again", x, y);
        PathInterdiction z = Texts.typed("ab1+1:1");
        z.clearText();
        Texts.typeInto(z, "cd");
        due.is("nothing is left of the old text", z.fault(), 2);
        due.is("it is no change", z.count(3), 0);
        z.clearText();
        due.is("nothing is loaded then", z.load(), 0);
    }

    private static void answersLength(Due due) {
        due.is("of none", new PathInterdiction().clearText(), 0);
        for (int size = 1; size <= 110; size++) {
            PathInterdiction x = Texts.typed(Benches.FULL_TEXT.substring(0, size));
            due.is("of " + size, x.clearText(), size);
            due.is("then", x.clearText(), 0);
        }
    }
}

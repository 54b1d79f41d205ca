/** Promise 9: fault. What a fault is, is told and tested in the terms. */
final class Promise09 {
    private Promise09() {
    }

    static void tell(Section promise) {
        promise.says("Returns the fault of the text.", due -> Ask.question(due, PathInterdiction::fault));
        promise.says("Returns the index", Promise09::answersIndex);
        promise.says("NONE if there is no fault", Promise09::answersNone);
    }

    /** A wrong byte at each index, from the first to the last one that there can be. */
    private static void answersIndex(Due due) {
        for (int i = 0; i < 110; i++) {
            due.is("a wrong byte after " + i + " blanks", Texts.typed(" ".repeat(i) + "!").fault(), i);
            String text = Benches.FULL_TEXT.substring(0, i) + '!' + Benches.FULL_TEXT.substring(i + 1);
            due.is("a wrong byte instead of byte " + i, Texts.typed(text).fault(), i);
        }
    }

    private static void answersNone(Due due) {
        due.is("the empty text", new PathInterdiction().fault(), PathInterdiction.NONE);
        due.is("a text of 110 bytes", Texts.typed(Benches.FULL_TEXT).fault(), PathInterdiction.NONE);
        for (int blanks = 1; blanks <= 110; blanks++) {
            due.is(blanks + " blanks", Texts.typed(" ".repeat(blanks)).fault(), PathInterdiction.NONE);
        }
        for (int edges = 1; edges <= 15; edges++) {
            due.is(edges + " edges", Texts.typed("ab1+1:1".repeat(edges)).fault(), PathInterdiction.NONE);
        }
    }
}

import java.util.function.Consumer;

/**
 * A section of the document and the tests of its sentences. Each test is named by the words that it tests; words
 * that the document does not have, and words of the document that no test names, are faults of the tests.
 */
final class Section {
    private final String title;
    /** Null if the document is not at hand. */
    private final String body;
    private final boolean[] quoted;
    private final Due all;

    Section(String title, String body, Due all) {
        this.title = title;
        this.body = body;
        this.quoted = new boolean[body == null ? 0 : body.length()];
        this.all = all;
    }

    void says(String words, Consumer<Due> test) {
        quote(words);
        Due due = new Due(title + ", \"" + words + "\"");
        test.accept(due);
        all.holds(title + ", \"" + words + "\"", due.isClean() && due.asked() > 0);
    }

    /** Words that ask for nothing by themselves, or that are tested at another place. */
    void leaves(String words, String why) {
        quote(words);
        all.holds(title + ": \"" + words + "\" is left for a reason", !why.isEmpty());
    }

    private void quote(String words) {
        if (body == null) {
            return;
        }
        int start = body.indexOf(words);
        all.holds(title + " says \"" + words + "\"", start >= 0 && !words.isEmpty());
        for (int i = start; start >= 0 && i < start + words.length(); i++) {
            quoted[i] = true;
        }
    }

    /** Looks for words that no test has named; what stands between back quotes is only a name. */
    void end() {
        StringBuilder left = new StringBuilder();
        boolean named = false;
        for (int i = 0; body != null && i < body.length(); i++) {
            char c = body.charAt(i);
            named ^= c == '`';
            if (!named && !quoted[i] && Character.isLetterOrDigit(c)) {
                left.append(c);
            }
        }
        all.holds(title + " has words without a test: " + left, left.length() == 0);
    }
}

/** Types texts into workbenches. */
final class Texts {
    private Texts() {
    }

    static PathInterdiction typed(String text) {
        PathInterdiction x = new PathInterdiction();
        typeInto(x, text);
        return x;
    }

    static PathInterdiction loaded(String text) {
        PathInterdiction x = typed(text);
        if (x.load() < 0) {
            throw new IllegalStateException("the test's own text has a fault: " + text);
        }
        return x;
    }

    static void typeInto(PathInterdiction x, String text) {
        for (int i = 0; i < text.length(); i++) {
            x.type(text.charAt(i));
        }
    }

    /** The set of some edges. */
    static int set(int... edges) {
        int set = 0;
        for (int e : edges) {
            set |= 1 << e;
        }
        return set;
    }
}

import java.util.Random;

/** Makes texts of graphs, about half of them with one byte put in, left out or changed. */
final class TextMaker {
    private static final String BYTES = " abchi0129+x:X-\u007f";

    private TextMaker() {
    }

    static String make(Random random, int nodes, int longest, int longestDelay) {
        StringBuilder text = new StringBuilder();
        int edges = random.nextInt(17);
        for (int e = 0; e < edges && text.length() < 118; e++) {
            int from = random.nextInt(nodes);
            int to = (from + 1 + random.nextInt(nodes - 1)) % nodes;
            int length = random.nextInt(longest + 1);
            int delay = 1 + random.nextInt(longestDelay);
            part(random, text, "" + (char) ('a' + from));
            part(random, text, "" + (char) ('a' + to));
            part(random, text, number(random, length));
            part(random, text, "+");
            part(random, text, random.nextInt(4) == 0 ? "x" : number(random, delay));
            part(random, text, ":");
            part(random, text, "" + (1 + random.nextInt(9)));
        }
        if (random.nextBoolean() && text.length() > 0) {
            spoil(random, text);
        }
        return text.toString();
    }

    private static String number(Random random, int value) {
        return value < 10 && random.nextInt(5) == 0 ? "0" + value : "" + value;
    }

    private static void part(Random random, StringBuilder text, String part) {
        text.append(" ".repeat(random.nextInt(20) == 0 ? 1 + random.nextInt(2) : 0));
        text.append(part);
        text.append(" ".repeat(random.nextInt(30) == 0 ? 1 : 0));
    }

    private static void spoil(Random random, StringBuilder text) {
        int i = random.nextInt(text.length());
        char c = BYTES.charAt(random.nextInt(BYTES.length()));
        switch (random.nextInt(4)) {
            case 0 -> text.insert(i, c);
            case 1 -> text.deleteCharAt(i);
            case 2 -> text.setCharAt(i, c);
            default -> text.setLength(i);
        }
    }
}

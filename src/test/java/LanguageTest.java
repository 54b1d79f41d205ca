import java.io.IOException;
import java.lang.reflect.Field;
import java.lang.reflect.Modifier;
import java.nio.file.Files;
import java.nio.file.Path;
import java.util.ArrayList;
import java.util.List;
import java.util.regex.Matcher;
import java.util.regex.Pattern;

/** What can be seen of the rules of LANGUAGE.md by looking at the words of the program. */
public final class LanguageTest {
    private static final Due due = new Due("LanguageTest");

    private LanguageTest() {
    }

    public static void main(String[] args) throws IOException {
        String source = Files.readString(Path.of("src/main/java/PathInterdiction.java"));
        String code = source.replaceAll("(?s)/\\*.*?\\*/", " ").replaceAll("//[^\n]*", " ");
        words(code);
        imports(code);
        classes(code);
        privateNames(code);
        methodLengths(source);
        madeOnce(code);
        calls(source);
        fields();
        due.end();
    }

    /** Rules 2, 4, 6 and 13. */
    private static void words(String code) {
        String[] banned = {
            "throw", "throws", "try", "catch", "finally", "synchronized", "assert", "package", "protected", "volatile",
            "transient", "native", "float", "double", "Object", "System.out", "System.err", "Exact", "equals",
            "hashCode", "toString", "Thread", "Random", "nanoTime", "currentTimeMillis", "->", "::", "var", "HashMap"};
        for (String word : banned) {
            boolean named = Character.isLetter(word.charAt(0));
            String pattern = named && !word.equals("Exact") ? "\\b" + Pattern.quote(word) + "\\b" : Pattern.quote(word);
            due.holds("no " + word, !Pattern.compile(pattern).matcher(code).find());
        }
        for (int i = 0; i < code.length(); i++) {
            if (code.charAt(i) > 126) {
                due.holds("only plain signs, but one at " + i, false);
            }
        }
    }

    private static void imports(String code) {
        Matcher matcher = Pattern.compile("import\\s+([^;]+);").matcher(code);
        while (matcher.find()) {
            due.holds("import of " + matcher.group(1), matcher.group(1).equals("java.util.Arrays"));
        }
    }

    /** Rules 1, 2 and 11. */
    private static void classes(String code) {
        Matcher matcher = Pattern.compile("([a-z ]*)\\bclass (\\w+)").matcher(code);
        int count = 0;
        while (matcher.find()) {
            count++;
            boolean face = matcher.group(2).equals("PathInterdiction");
            due.holds("class " + matcher.group(2), face || matcher.group(1).contains("static"));
        }
        due.holds("at most twelve classes, not " + count, count >= 1 && count <= 12);
    }

    /** Rule 1: a name of the face is borne by the face's method alone. */
    private static void privateNames(String code) {
        List<String> face = new ArrayList<>();
        Matcher open = Pattern.compile("public (?:int|long) (\\w+)\\(").matcher(code);
        while (open.find()) {
            face.add(open.group(1));
        }
        due.is("methods of the face", face.size(), 31);
        Matcher other = Pattern.compile("\\n +(?!public|return|else)(?:[a-z]+ )*(?:int|long|boolean|void) (\\w+)\\(").matcher(code);
        int seen = 0;
        while (other.find()) {
            seen++;
            due.holds(other.group(1) + " is no name of the face", !face.contains(other.group(1)));
        }
        due.holds("other methods were seen", seen > 40);
    }

    /** Rule 11: at most sixty lines and seven parameters. */
    private static void methodLengths(String source) {
        String[] lines = source.split("\n");
        Pattern head = Pattern.compile("^( {4}| {8})(?! )[^=;]*\\(([^)]*)\\) \\{$");
        for (int i = 0; i < lines.length; i++) {
            Matcher matcher = head.matcher(lines[i]);
            if (matcher.matches() && !lines[i].contains("class ")) {
                int end = i;
                while (!lines[end].equals(matcher.group(1) + "}")) {
                    end++;
                }
                due.holds("length of the method at line " + (i + 1), end - i < 60);
                due.holds("parameters at line " + (i + 1), matcher.group(2).split(",").length <= 7);
            }
        }
    }

    /** The room: objects and arrays are made with the workbench and by no later call. */
    private static void madeOnce(String code) {
        for (String line : code.split("\n")) {
            if (line.contains("new ")) {
                due.holds("made in a field: " + line.trim(), line.trim().matches("(private )?final .*"));
            }
        }
    }

    /** Rules 8 and 11: calls at most eight deep; only private methods call themselves, and none in a circle. */
    private static void calls(String source) {
        CallGraph graph = new CallGraph(source);
        due.holds("methods were seen", graph.size() > 80);
        List<String> chain = graph.longestChain();
        due.holds("no methods call one another in a circle", chain != null);
        due.holds("calls are at most eight deep: " + chain, chain != null && chain.size() <= 8);
        due.holds("the chain goes through the searches: " + chain, chain != null && chain.size() >= 7);
        for (String name : graph.recursive()) {
            due.holds(name + " calls itself and is private", !graph.isOpen(name));
        }
        due.is("methods that call themselves", graph.recursive().size(), 3);
    }

    /** Rules 2, 5 and 11: static fields are final, and a class has at most twenty other ones. */
    private static void fields() {
        List<Class<?>> classes = new ArrayList<>(List.of(PathInterdiction.class.getDeclaredClasses()));
        classes.add(PathInterdiction.class);
        for (Class<?> one : classes) {
            int own = 0;
            for (Field field : one.getDeclaredFields()) {
                boolean shared = Modifier.isStatic(field.getModifiers());
                own += shared ? 0 : 1;
                due.holds(field + " is final if it is static", !shared || Modifier.isFinal(field.getModifiers()));
            }
            due.holds(one.getSimpleName() + " has at most twenty fields, not " + own, own >= 1 && own <= 20);
        }
    }
}

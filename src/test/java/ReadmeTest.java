import java.io.IOException;
import java.nio.file.Files;
import java.nio.file.Path;
import java.util.ArrayList;
import java.util.List;
import java.util.Set;
import java.util.TreeSet;
import java.util.regex.Matcher;
import java.util.regex.Pattern;
import java.util.stream.Collectors;
import java.util.stream.Stream;
import javax.tools.JavaCompiler;
import javax.tools.ToolProvider;

/** What README.md says is so: its calls answer as it says, and its tables name every call and every test. */
public final class ReadmeTest {
    private static final Due due = new Due("ReadmeTest");
    private static final Pattern ANSWERED = Pattern.compile("^(x\\.\\w+\\(.*?\\)); *// (-?\\d+|[A-Z]+)(:.*)?$");

    private ReadmeTest() {
    }

    public static void main(String[] args) throws Exception {
        String readme = Files.readString(Path.of("README.md"));
        examples(between(readme, "## How to use it", "\n## "));
        callsAreNamed(between(readme, "| call |", "\n\n"));
        testsAreNamed(between(readme, "| test |", "\n\n"));
        due.end();
    }

    private static String between(String all, String start, String end) {
        int from = all.indexOf(start);
        int to = from < 0 ? -1 : all.indexOf(end, from + start.length());
        due.holds("README.md has a part that begins with " + start, to >= 0);
        return to < 0 ? "" : all.substring(from, to);
    }

    /** The examples become one program, in which each call that has an answer behind it is compared with that. */
    private static void examples(String part) throws Exception {
        List<String> body = new ArrayList<>();
        int answered = 0;
        Matcher block = Pattern.compile("(?s)```java\n(.*?)```").matcher(part);
        while (block.find()) {
            for (String line : block.group(1).split("\n")) {
                Matcher call = ANSWERED.matcher(line);
                answered += call.matches() ? 1 : 0;
                due.holds("an answer can be read in: " + line, call.matches() || !line.contains("//"));
                body.add(call.matches() ? compared(call.group(1), call.group(2)) : line);
            }
        }
        due.holds("there are calls with answers", answered > 10);
        run(String.join("\n", body));
    }

    private static String compared(String call, String answer) {
        String want = Character.isLetter(answer.charAt(0)) ? "PathInterdiction." + answer : answer;
        return "if (" + call + " != " + want + ") { wrong.add(\"" + call.replace("\"", "\\\"") + "\"); }";
    }

    private static void run(String body) throws Exception {
        Path folder = Files.createTempDirectory("readme");
        try {
            Path file = folder.resolve("ReadmeExample.java");
            Files.writeString(file, "public final class ReadmeExample implements java.util.function.Consumer<java.util.List<String>> {\n"
                + "public void accept(java.util.List<String> wrong) {\n" + body + "\n}\n}\n");
            JavaCompiler compiler = ToolProvider.getSystemJavaCompiler();
            String classes = System.getProperty("java.class.path");
            int failed = compiler.run(null, null, null, "-cp", classes, "-d", folder.toString(), file.toString());
            due.is("the examples can be compiled", failed, 0);
            if (failed == 0) {
                accept(folder);
            }
        } finally {
            delete(folder);
        }
    }

    @SuppressWarnings("unchecked")
    private static void accept(Path folder) throws Exception {
        try (var loader = new java.net.URLClassLoader(new java.net.URL[] {folder.toUri().toURL()})) {
            Object example = loader.loadClass("ReadmeExample").getConstructor().newInstance();
            List<String> wrong = new ArrayList<>();
            ((java.util.function.Consumer<List<String>>) example).accept(wrong);
            due.holds("calls of README.md answer otherwise: " + wrong, wrong.isEmpty());
        }
    }

    private static void delete(Path folder) throws IOException {
        try (Stream<Path> files = Files.list(folder)) {
            for (Path file : files.toList()) {
                Files.delete(file);
            }
        }
        Files.delete(folder);
    }

    /** The first column has each method of the document's face, with the names of its arguments, in its order. */
    private static void callsAreNamed(String table) throws IOException {
        String face = between(Files.readString(Path.of("../shared/DOC.md")), "```java", "```");
        List<String> want = new ArrayList<>();
        Matcher method = Pattern.compile("public (?:int|long) (\\w+)\\(([^)]*)\\);").matcher(face);
        while (method.find()) {
            want.add(method.group(1) + "(" + method.group(2).replaceAll("\\b(int|boolean) ", "") + ")");
        }
        due.is("methods of the face", want.size(), 31);
        due.holds("the table of calls is the face: " + firstColumn(table), firstColumn(table).equals(want));
    }

    private static void testsAreNamed(String table) throws IOException {
        try (Stream<Path> files = Files.list(Path.of("src/test/java"))) {
            Set<String> want = files.map(file -> file.getFileName().toString()).filter(name -> name.endsWith("Test.java"))
                .map(name -> name.replace(".java", "")).collect(Collectors.toCollection(TreeSet::new));
            due.holds("the table of tests has them all: " + want, new TreeSet<>(firstColumn(table)).equals(want));
        }
    }

    private static List<String> firstColumn(String table) {
        List<String> names = new ArrayList<>();
        String[] lines = table.split("\n");
        for (int i = 2; i < lines.length; i++) {
            names.add(lines[i].split("\\|")[1].replace("`", "").trim());
        }
        return names;
    }
}

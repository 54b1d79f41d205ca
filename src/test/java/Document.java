import java.io.IOException;
import java.nio.file.Files;
import java.nio.file.Path;
import java.util.Map;
import java.util.TreeMap;

/** The document, by sections: the words of each with one blank between them. */
final class Document {
    private final Map<String, String> bodies = new TreeMap<>();
    private final boolean present;

    private Document(boolean present) {
        this.present = present;
    }

    /** Where the document is not at hand, the tests run all the same, and no quote is looked up. */
    static Document read(Path path) throws IOException {
        Document document = new Document(Files.exists(path));
        if (!document.present) {
            System.out.println("there is no " + path + ": the quotes are not looked up");
            return document;
        }
        String title = "";
        for (String line : Files.readAllLines(path)) {
            if (line.startsWith("## ")) {
                title = line.substring(3).trim();
            } else if (!line.startsWith("```")) {
                document.bodies.merge(title, " " + line.trim(), String::concat);
            }
        }
        return document;
    }

    Section section(String title, Due all) {
        if (!present) {
            return new Section(title, null, all);
        }
        all.holds("the document has the section '" + title + "'", bodies.containsKey(title));
        return new Section(title, bodies.getOrDefault(title, "").replaceAll("\\s+", " ").trim(), all);
    }
}

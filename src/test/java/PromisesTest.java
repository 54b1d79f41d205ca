import java.io.IOException;
import java.nio.file.Path;
import java.util.function.Consumer;

/** Every sentence of the document, with the boundary cases that it names, has a test that is named after it. */
public final class PromisesTest {
    private static final Due due = new Due("PromisesTest");

    private PromisesTest() {
    }

    public static void main(String[] args) throws IOException {
        Document document = Document.read(Path.of("../shared/DOC.md"));
        ask(document, "What it is", TermsState::tellUse);
        ask(document, "Terms", section -> {
            TermsGraph.tell(section);
            TermsState.tell(section);
            TermsText.tell(section);
        });
        ask(document, "Promise 1: A new object", Promise01::tell);
        ask(document, "Promise 2: addEdge", Promise02::tell);
        ask(document, "Promise 3: removeEdge", Promise03::tell);
        ask(document, "Promise 4: setEdge", Promise04::tell);
        ask(document, "Promise 5: edge", Promise05::tell);
        ask(document, "Promise 6: clear", Promise06::tell);
        ask(document, "Promise 7: type", Promise07::tell);
        ask(document, "Promise 8: clearText", Promise08::tell);
        ask(document, "Promise 9: fault", Promise09::tell);
        ask(document, "Promise 10: load", Promise10::tell);
        ask(document, "Promise 11: attack", Promise11::tell);
        ask(document, "Promise 12: setAttack", Promise12::tell);
        ask(document, "Promise 13: distance", Promise13::tell);
        ask(document, "Promise 14: first", Promise14::tell);
        ask(document, "Promise 15: paths", Promise15::tell);
        ask(document, "Promise 16: pathLength", Promise16::tell);
        ask(document, "Promise 17: tight", Promise17::tell);
        ask(document, "Promise 18: interdict", Promise18::tell);
        ask(document, "Promise 19: greedy", Promise19::tell);
        ask(document, "Promise 20: budgetFor", Promise20::tell);
        ask(document, "Promise 21: blockade", Promise21::tell);
        ask(document, "Promise 22: respond", Promise22::tell);
        ask(document, "Promise 23: interdictResponse", Promise23::tell);
        ask(document, "Promise 24: fortify", Promise24::tell);
        ask(document, "Promise 25: finding", Promise25::tell);
        ask(document, "Promise 26: worth", Promise26::tell);
        ask(document, "Promise 27: neverHelps", Promise27::tell);
        ask(document, "Promise 28: expected", Promise28::tell);
        ask(document, "Promise 29: lost", Promise29::tell);
        ask(document, "Promise 30: undo", Promise30::tell);
        ask(document, "Promise 31: count", Promise31::tell);
        ask(document, "Promise 32: digest", Promise32::tell);
        due.end();
    }

    private static void ask(Document document, String title, Consumer<Section> tests) {
        Section section = document.section(title, due);
        tests.accept(section);
        section.end();
    }
}

import java.io.IOException;
import java.lang.reflect.Method;
import java.nio.file.Files;
import java.nio.file.Path;
import java.util.ArrayList;
import java.util.List;
import java.util.Set;

/** Each sentence of the document has a test that quotes it, and what the tests quote stands in the document. */
public final class DocumentTest {
    private static final Path DOCUMENT = Path.of("../shared/DOC.md");

    private static final List<Class<? extends Sentences>> TESTS = List.of(
        TermsTest.class, MapSentencesTest.class, PlacesSentencesTest.class, ValuesSentencesTest.class);

    /** Lines that say no more than the line ahead of them, and so name no edge of their own. */
    private static final Set<String> PLAIN = Set.of(
        "- `p`: the place", "- `a`: the one", "- `b`: the other one", "- `a`: one of its ends", "- `k`: the one",
        "- `other`: the other one", "Returns how many.", "Returns how many there are.", "Returns whether there is.",
        "Returns the least one.", "Returns the number.", "Returns the colour.", "Returns the coefficient.",
        "Returns the value.", "Returns that.", "Returns it.",
        "Returns the sign of the value at a number.", "Returns what is left of the value at a number.");

    private final Check check = new Check();

    public static void main(String[] args) throws IOException {
        if (!Files.exists(DOCUMENT)) {
            System.out.println("DocumentTest: there is no " + DOCUMENT + " to look at");
            return;
        }
        DocumentTest test = new DocumentTest();
        List<String> parts = partsOf(Files.readString(DOCUMENT));
        test.quotesStand(parts);
        test.sentencesAreQuoted(parts);
        test.check.end("DocumentTest");
    }

    /** What stands ahead of the first promise, and then each promise. */
    private static List<String> partsOf(String document) {
        String text = document.substring(0, document.indexOf("\n## Not promised"));
        return List.of(text.split("\n## Promise "));
    }

    private static String inOneLine(String text) {
        return text.replaceAll("\\s+", " ").trim();
    }

    private static List<String> quotesOf(int promise) {
        List<String> quotes = new ArrayList<>();
        for (Class<? extends Sentences> one : TESTS) {
            for (Method test : Sentences.testsOf(one)) {
                Says says = test.getAnnotation(Says.class);
                if (says.promise() == promise) {
                    quotes.add(says.words());
                }
            }
        }
        return quotes;
    }

    private void quotesStand(List<String> parts) {
        int last = parts.size() - 1;
        check.same("promises", last, 41);
        for (int promise = 0; promise <= last; promise++) {
            String part = inOneLine(parts.get(promise));
            List<String> quotes = quotesOf(promise);
            check.yes("promise " + promise + " has a test", !quotes.isEmpty());
            for (String quote : quotes) {
                check.yes("promise " + promise + " says: " + quote, part.contains(quote));
                check.same("tests of " + promise + ": " + quote, quotes.stream().filter(quote::equals).count(), 1L);
            }
        }
    }

    private void sentencesAreQuoted(List<String> parts) {
        for (int promise = 0; promise < parts.size(); promise++) {
            List<String> quotes = quotesOf(promise);
            for (String sentence : promise == 0 ? termsOf(parts.get(0)) : linesOf(parts.get(promise))) {
                boolean isQuoted = quotes.stream().anyMatch(quote -> sentence.contains(quote) || quote.contains(sentence));
                check.yes("promise " + promise + " has a test of: " + sentence, isQuoted || PLAIN.contains(sentence));
            }
        }
    }

    /** The terms, a sentence each. */
    private static List<String> termsOf(String part) {
        String terms = part.substring(part.indexOf("\n## Terms") + 9, part.indexOf("\nAhead of the calls"));
        String text = inOneLine(terms).replace("<p>", "");
        return List.of(text.split("(?<=[.:]|\\.\\)) (?=[A-Z(])"))
            .stream().filter(sentence -> sentence.indexOf(' ') > 0).toList();
    }

    /** What the call does, without its head, and then each line about it. */
    private static List<String> linesOf(String part) {
        List<String> lines = new ArrayList<>();
        for (String line : part.substring(part.indexOf('\n')).split("\n(?=\n|- )")) {
            String one = inOneLine(line);
            if (!one.isEmpty()) {
                lines.add(one.replaceFirst("^`[^`]*\\)[^`]*`: ", ""));
            }
        }
        return lines;
    }
}

import java.io.IOException;
import java.lang.reflect.Method;
import java.nio.file.Files;
import java.nio.file.Path;
import java.util.ArrayList;
import java.util.List;
import java.util.Set;
import java.util.regex.Matcher;
import java.util.regex.Pattern;

/**
 * Each sentence of the document has a test that quotes it, and what the tests quote stands in the document; the class
 * has the document's face.
 */
public final class DocumentTest {
    private static final Path DOCUMENT = Path.of("../shared/DOC.md");
    private static final Path SOURCE = Path.of("src/main/java/Colourmap.java");

    private static final List<Class<? extends Sentences>> TESTS = List.of(
        TermsTest.class, MapSentencesTest.class, PlacesSentencesTest.class, ValuesSentencesTest.class);

    /** Lines that say no more than the line ahead of them, and so name no edge of their own. */
    private static final Set<String> PLAIN = Set.of(
        "- `p`: the place", "- `a`: the one", "- `b`: the other one", "- `a`: one of its ends", "- `k`: the one",
        "- `other`: the other one", "Returns how many.", "Returns how many there are.", "Returns whether there is.",
        "Returns the least one.", "Returns the number.", "Returns the colour.", "Returns the coefficient.",
        "Returns the value.", "Returns that.", "Returns it.",
        "Returns the sign of the value at a number.", "Returns what is left of the value at a number.");

    private final Check check = new Check();

    public static void main(String[] args) throws IOException {
        if (!Files.exists(DOCUMENT)) {
            System.out.println("DocumentTest: there is no " + DOCUMENT + " to look at");
            return;
        }
        DocumentTest test = new DocumentTest();
        String document = Files.readString(DOCUMENT);
        List<String> parts = partsOf(document);
        test.quotesStand(parts);
        test.sentencesAreQuoted(parts);
        test.faceStands(document, Files.readString(SOURCE));
        test.check.end("DocumentTest");
    }

    /** What stands ahead of the first promise, and then each promise. */
    private static List<String> partsOf(String document) {
        String text = document.substring(0, document.indexOf("\n## Not promised"));
        return List.of(text.split("\n## Promise "));
    }

    private static String inOneLine(String text) {
        return text.replaceAll("\\s+", " ").trim();
    }

    private static List<String> quotesOf(int promise) {
        List<String> quotes = new ArrayList<>();
        for (Class<? extends Sentences> one : TESTS) {
            for (Method test : Sentences.testsOf(one)) {
                Says says = test.getAnnotation(Says.class);
                if (says.promise() == promise) {
                    quotes.add(says.words());
                }
            }
        }
        return quotes;
    }

    private void quotesStand(List<String> parts) {
        int last = parts.size() - 1;
        check.same("promises", last, 41);
        for (int promise = 0; promise <= last; promise++) {
            String part = inOneLine(parts.get(promise));
            List<String> quotes = quotesOf(promise);
            check.yes("promise " + promise + " has a test", !quotes.isEmpty());
            for (String quote : quotes) {
                check.yes("promise " + promise + " says: " + quote, part.contains(quote));
                check.same("tests of " + promise + ": " + quote, quotes.stream().filter(quote::equals).count(), 1L);
            }
        }
    }

    private void sentencesAreQuoted(List<String> parts) {
        for (int promise = 0; promise < parts.size(); promise++) {
            List<String> quotes = quotesOf(promise);
            for (String sentence : promise == 0 ? termsOf(parts.get(0)) : linesOf(parts.get(promise))) {
                boolean isQuoted = quotes.stream().anyMatch(quote -> sentence.contains(quote) || quote.contains(sentence));
                check.yes("promise " + promise + " has a test of: " + sentence, isQuoted || PLAIN.contains(sentence));
            }
        }
    }

    /** The terms, a sentence each. */
    private static List<String> termsOf(String part) {
        String terms = part.substring(part.indexOf("\n## Terms") + 9, part.indexOf("\nAhead of the calls"));
        String text = inOneLine(terms).replace("<p>", "");
        return List.of(text.split("(?<=[.:]|\\.\\)) (?=[A-Z(])"))
            .stream().filter(sentence -> sentence.indexOf(' ') > 0).toList();
    }

    /** What the call does, without its head, and then each line about it. */
    private static List<String> linesOf(String part) {
        List<String> lines = new ArrayList<>();
        for (String line : part.substring(part.indexOf('\n')).split("\n(?=\n|- )")) {
            String one = inOneLine(line);
            if (!one.isEmpty()) {
                lines.add(one.replaceFirst("^`[^`]*\\)[^`]*`: ", ""));
            }
        }
        return lines;
    }

    /** The class's lines are those of the document, in its order, each of its parts under the line that it says. */
    private void faceStands(String document, String source) {
        List<String> want = withHeads(document, faceOf(document));
        List<String> got = source.substring(0, source.indexOf("// ---- what the calls share")).lines()
            .filter(line -> line.startsWith("    public ") || line.startsWith("    // ----"))
            .map(line -> line.trim().replaceFirst(" \\{$", ""))
            .toList();
        int alike = 0;
        while (alike < got.size() && alike < want.size() && got.get(alike).equals(want.get(alike))) {
            alike++;
        }
        check.same("line " + (alike + 1) + " of the face", lineOf(got, alike), lineOf(want, alike));
        for (String head : List.of("import java.util.NoSuchElementException;", "public final class Colourmap {")) {
            check.yes("the document shows " + head, document.contains("\n" + head + "\n"));
            check.yes("the class has " + head, source.lines().anyMatch(head::equals));
        }
    }

    private static String lineOf(List<String> lines, int index) {
        return index < lines.size() ? lines.get(index) : "no line";
    }

    private static List<String> faceOf(String document) {
        return document.lines().filter(line -> line.startsWith("    public "))
            .map(line -> line.trim().replaceFirst(";$", "")).toList();
    }

    private static List<String> withHeads(String document, List<String> face) {
        List<String> lines = new ArrayList<>();
        for (String line : face) {
            Matcher head = Pattern.compile("(?m)^Ahead of the calls `" + nameOf(line) + "`.* the interface says: (.*)\\.$")
                .matcher(document);
            if (head.find()) {
                lines.add("// " + head.group(1));
            }
            lines.add(line);
        }
        return lines;
    }

    private static String nameOf(String line) {
        return line.substring(line.lastIndexOf(' ', line.indexOf('(')) + 1, line.indexOf('('));
    }
}

import java.io.File;
import java.io.IOException;
import java.nio.file.Files;
import java.nio.file.Path;
import java.util.Comparator;
import java.util.Set;
import java.util.TreeSet;
import java.util.regex.Matcher;
import java.util.regex.Pattern;
import java.util.stream.Stream;

/** What README.md says is so: its example does what stands there, and its table has all tests. */
public final class ReadmeTest {
    private static final Path README = Path.of("README.md");
    private static final Path TESTS = Path.of("src/test/java");
    private static final String EXAMPLE = "Example.java";

    private final Check check = new Check();

    public static void main(String[] args) throws IOException, InterruptedException {
        ReadmeTest test = new ReadmeTest();
        String readme = Files.readString(README);
        test.example(readme);
        test.table(readme);
        test.check.end("ReadmeTest");
    }

    /** Tries the lines in a folder of its own, laid out as a checkout, so that what they make does not stay. */
    private void example(String readme) throws IOException, InterruptedException {
        Path folder = Files.createTempDirectory("readme");
        try {
            Path source = Path.of("src/main/java/Colourmap.java");
            Files.createDirectories(folder.resolve(source).getParent());
            Files.copy(source, folder.resolve(source));
            Files.writeString(folder.resolve(EXAMPLE), block(readme, "java"));
            StringBuilder printed = new StringBuilder();
            for (String line : block(readme, "sh").split("\n")) {
                printed.append(printedBy(line, folder));
            }
            check.same("the example prints", printed.toString(), block(readme, "text"));
            check.same("beside the sources lies", besideTheSources(folder), "Colourmap.java");
        } finally {
            remove(folder);
        }
    }

    private static String block(String readme, String kind) {
        Matcher found = Pattern.compile("```" + kind + "\n(.*?)```", Pattern.DOTALL).matcher(readme);
        return found.find() ? found.group(1) : "no block of " + kind;
    }

    private String printedBy(String line, Path folder) throws IOException, InterruptedException {
        Process process = new ProcessBuilder(line.split(" ")).directory(folder.toFile()).redirectErrorStream(true).start();
        String printed = new String(process.getInputStream().readAllBytes());
        check.same(line + ": exit code", process.waitFor(), 0);
        return printed.replace(System.lineSeparator(), "\n");
    }

    private static String besideTheSources(Path folder) {
        return String.join(" ", folder.resolve("src/main/java").toFile().list());
    }

    private static void remove(Path folder) throws IOException {
        try (Stream<Path> inside = Files.walk(folder)) {
            inside.sorted(Comparator.reverseOrder()).map(Path::toFile).forEach(File::delete);
        }
    }

    private void table(String readme) throws IOException {
        Set<String> told = new TreeSet<>();
        Matcher row = Pattern.compile("(?m)^\\| `(\\w+)` \\|").matcher(readme);
        while (row.find()) {
            told.add(row.group(1));
        }
        Set<String> there = new TreeSet<>();
        try (Stream<Path> files = Files.list(TESTS)) {
            files.map(file -> file.getFileName().toString()).filter(name -> name.endsWith("Test.java"))
                .forEach(name -> there.add(name.replace(".java", "")));
        }
        check.same("the table's tests", told, there);
    }
}

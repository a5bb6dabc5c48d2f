import java.io.IOException;
import java.lang.reflect.Constructor;
import java.lang.reflect.Field;
import java.lang.reflect.Method;
import java.lang.reflect.Modifier;
import java.nio.file.Files;
import java.nio.file.Path;
import java.util.Arrays;
import java.util.Set;
import java.util.TreeSet;
import java.util.regex.Matcher;
import java.util.regex.Pattern;
import java.util.stream.Collectors;

/** The class shows the document's face and no more, and its text keeps to the rules of LANGUAGE.md that a text shows. */
public final class LanguageTest {
    private static final Path SOURCE = Path.of("src/main/java/Colourmap.java");

    private static final String[] FACE = {
        "int begin(int) throws IllegalArgumentException",
        "int place() throws IllegalStateException",
        "int star() throws IllegalStateException",
        "int leave(int) throws IndexOutOfBoundsException",
        "boolean way(int, int) throws IndexOutOfBoundsException, IllegalArgumentException",
        "int tear(int, int) throws IndexOutOfBoundsException, NoSuchElementException",
        "int draw(int, int) throws IndexOutOfBoundsException, IllegalArgumentException",
        "boolean swap(int, int) throws IndexOutOfBoundsException",
        "int others()", "int keep()", "boolean turn()",
        "int beside() throws IllegalStateException",
        "int places()", "int ways()",
        "boolean isWay(int, int) throws IndexOutOfBoundsException",
        "int degree(int) throws IndexOutOfBoundsException",
        "int next(int, int) throws IndexOutOfBoundsException",
        "int previous(int, int) throws IndexOutOfBoundsException",
        "double mean() throws IllegalStateException",
        "int pieces()",
        "int piece(int) throws IndexOutOfBoundsException",
        "int apart()", "int together()",
        "int partings(int) throws IllegalArgumentException",
        "boolean isTwo()", "int fewest()",
        "int colour(int) throws IndexOutOfBoundsException",
        "int colourings(int) throws IllegalArgumentException",
        "long coefficient(int) throws IndexOutOfBoundsException",
        "int value(int) throws ArithmeticException",
        "long round(int)", "int bits(int)", "int sign(int)",
        "int digit(int, int) throws IndexOutOfBoundsException",
        "int rest(int, int) throws ArithmeticException",
        "int compare(int, int)", "long directions()",
        "int tried() throws UnsupportedOperationException",
        "boolean isTrue()", "long checksum()"};

    /** What no line of the program holds; comments and texts are taken out first. */
    private static final String[] NEVER = {
        "\\bpackage\\b", "->", "::", "\\bsynchronized\\b", "\\bassert\\b", "\\bfinally\\b", "\\bcatch\\b", "\\btry\\b",
        "\\bwhile \\(true\\)", "\\bfor \\(;", "\\bprotected\\b", "\\bvar\\b", "\\binstanceof\\b", "Exact\\b",
        "\\bSystem\\b", "\\bThread\\b", "\\bRandom\\b", "\\bBitSet\\b", "\\bBigInteger\\b", "\\bjava\\.(?!util\\.NoSuch)",
        "\\bequals\\b", "\\bhashCode\\b", "\\btoString\\b", "\\bnull\\b", "\\bstatic \\{", "@"};

    private final Check check = new Check();

    public static void main(String[] args) throws IOException {
        LanguageTest test = new LanguageTest();
        test.face();
        test.inside();
        test.text();
        test.check.end("LanguageTest");
    }

    private void face() {
        Set<String> shown = new TreeSet<>();
        Set<String> hidden = new TreeSet<>();
        for (Method method : Colourmap.class.getDeclaredMethods()) {
            if (Modifier.isPublic(method.getModifiers())) {
                shown.add(asText(method));
            } else if (!method.isSynthetic()) {
                hidden.add(method.getName());
                check.yes(method + " is private", Modifier.isPrivate(method.getModifiers()));
            }
        }
        check.same("face", shown, new TreeSet<>(Arrays.asList(FACE)));
        for (Method method : Colourmap.class.getDeclaredMethods()) {
            if (Modifier.isPublic(method.getModifiers())) {
                check.no(method.getName() + " is a private name too", hidden.contains(method.getName()));
            }
        }
        Constructor<?>[] made = Colourmap.class.getDeclaredConstructors();
        check.same("constructors", made.length, 1);
        check.yes("public constructor without parameters", Modifier.isPublic(made[0].getModifiers())
            && made[0].getParameterCount() == 0);
        check.yes("final", Modifier.isFinal(Colourmap.class.getModifiers()));
    }

    private static String asText(Method method) {
        String text = method.getReturnType().getSimpleName() + " " + method.getName()
            + names(method.getParameterTypes()).collect(Collectors.joining(", ", "(", ")"));
        Class<?>[] thrown = method.getExceptionTypes();
        return thrown.length == 0 ? text : text + " throws " + names(thrown).collect(Collectors.joining(", "));
    }

    private static java.util.stream.Stream<String> names(Class<?>[] types) {
        return Arrays.stream(types).map(Class::getSimpleName);
    }

    private void inside() {
        fields(Colourmap.class);
        Class<?>[] inside = Colourmap.class.getDeclaredClasses();
        check.yes("at most twelve classes", inside.length < 12);
        for (Class<?> one : inside) {
            check.yes(one + " is private and static",
                Modifier.isPrivate(one.getModifiers()) && Modifier.isStatic(one.getModifiers()));
            fields(one);
            for (Method method : one.getDeclaredMethods()) {
                check.no(method + " is public", Modifier.isPublic(method.getModifiers()));
                check.yes(method + " takes at most seven", method.getParameterCount() <= 7);
                check.no(method + " has a name of the face", Arrays.stream(FACE)
                    .anyMatch(shown -> shown.contains(" " + method.getName() + "(")));
            }
        }
    }

    private void fields(Class<?> one) {
        check.yes("fields of " + one, one.getDeclaredFields().length <= 20);
        for (Field field : one.getDeclaredFields()) {
            int how = field.getModifiers();
            check.yes(field + " is private", Modifier.isPrivate(how));
            check.yes(field + " is no static state", !Modifier.isStatic(how) || Modifier.isFinal(how));
        }
    }

    private void text() throws IOException {
        String text = Files.readString(SOURCE)
            .replaceAll("(?s)/\\*.*?\\*/", "").replaceAll("//[^\n]*", "").replaceAll("\"[^\"\n]*\"", "\"\"");
        for (String never : NEVER) {
            Matcher found = Pattern.compile(never).matcher(text);
            check.same("found of " + never, found.find() ? found.group() : "nothing", "nothing");
        }
        check.same("imports", text.lines().filter(line -> line.startsWith("import")).count(), 1L);
        // Objects are made with the object itself, and by a throw: no call makes one else.
        for (String line : text.lines().filter(line -> line.contains("new ")).toList()) {
            check.yes("makes an object: " + line.strip(),
                line.matches(" +throw new \\w+\\(\"\"\\);| +private (final )?[\\w\\[\\]]+ \\w+ = new .*;"));
        }
    }
}

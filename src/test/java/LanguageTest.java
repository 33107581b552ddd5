import java.io.IOException;
import java.nio.file.Files;
import java.nio.file.Path;
import java.util.List;
import java.util.regex.Matcher;
import java.util.regex.Pattern;
import java.util.stream.Collectors;
import java.util.stream.Stream;

/** The rules of ../shared/LANGUAGE.md that can be read off the text of the program. */
public final class LanguageTest {
    private static final Path FOLDER = Path.of("src", "main", "java");
    private static final int LONGEST_METHOD = 60;
    private static final int MOST_PARAMETERS = 7;
    private static final int MOST_CLASSES = 12;

    // Rule by rule: what the program has no need of, and no right to.
    private static final String[] RULED_OUT = {
        "package", "import static", "->", "::", "strictfp", "native", "transient", "volatile",
        "float", "System", "Random", "Thread", "Object", "try", "catch", "finally", "synchronized", "assert",
        "instanceof", "equals", "hashCode", "toString", "extends Exception", "\\w+Exact"};
    private static final Pattern THROWN = Pattern.compile("throw\\b(?! new (IndexOutOfBounds|IllegalArgument|IllegalState)Exception\\(\"\"\\);)");
    private static final Pattern HEAD = Pattern.compile("^ +(?!return|throw|new|else|for|if|while|switch)[a-zA-Z][\\w\\[\\] ]* \\w+\\(([^)]*)\\)[\\w, ]* \\{$");

    public static void main(String[] args) throws IOException {
        Checks.holds(0, "public final class TypeFoundry {");
        Checks.due("the files of the program", List.of("TypeFoundry.java"), LanguageTest::files);
        String source = Files.readString(FOLDER.resolve("TypeFoundry.java"));
        Checks.due("signs 1 to 127 alone", true, () -> source.chars().allMatch(sign -> sign > 0 && sign < 128));
        String program = withoutTexts(source);
        Checks.due("the imports", List.of("import java.util.Arrays;"), () -> found("(?m)^import .*$", program));
        for (String word : RULED_OUT) {
            String whole = word.startsWith("-") || word.startsWith(":") ? word : "\\b" + word + "\\b";
            Checks.due("uses of " + word, List.of(), () -> found(whole, program));
        }
        Checks.due("throws of another form", false, () -> THROWN.matcher(program).find());
        Checks.due("at most 12 classes", true, () -> found("(?m)^ *(\\w+ )*class \\w+", program).size() <= MOST_CLASSES);
        methods(program.split("\n"));
        Checks.end("LanguageTest");
    }

    private static void methods(String[] lines) {
        int methods = 0;
        for (int i = 0; i < lines.length; i++) {
            Matcher head = HEAD.matcher(lines[i]);
            if (head.matches()) {
                methods++;
                int first = i;
                Checks.due("a short method: " + lines[i].strip(), true, () -> lengthFrom(lines, first) <= LONGEST_METHOD);
                Checks.due("few parameters: " + lines[i].strip(), true, () -> head.group(1).split(",").length <= MOST_PARAMETERS);
            }
        }
        int found = methods;
        Checks.due("the methods of the face are among those that are found", true, () -> found > 21);
    }

    /** A method ends with the brace that stands as far to the left as its head. */
    private static int lengthFrom(String[] lines, int first) {
        String end = lines[first].replaceFirst("\\S.*$", "}");
        int length = 1;
        while (first + length < lines.length && !lines[first + length].equals(end)) {
            length++;
        }
        return length + 1;
    }

    private static List<String> files() {
        try (Stream<Path> all = Files.walk(FOLDER)) {
            return all.filter(Files::isRegularFile).map(path -> FOLDER.relativize(path).toString()).collect(Collectors.toList());
        } catch (IOException thrown) {
            return List.of(thrown.toString());
        }
    }

    private static List<String> found(String pattern, String program) {
        return Pattern.compile(pattern).matcher(program).results().map(result -> result.group()).collect(Collectors.toList());
    }

    /** Without comments, and with empty texts, so that no word of them is met. */
    private static String withoutTexts(String source) {
        return source.replaceAll("\"[^\"\\n]*\"", "\"\"").replaceAll("(?s)/\\*.*?\\*/", "").replaceAll("//[^\\n]*", "");
    }
}

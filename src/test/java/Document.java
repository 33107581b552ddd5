import java.io.IOException;
import java.io.UncheckedIOException;
import java.nio.file.Files;
import java.nio.file.Path;
import java.util.ArrayList;
import java.util.List;

/**
 * The sentences of ../shared/DOC.md, promise by promise, and which of them the tests hold. Where it
 * does not lie beside the project, sentences are taken as they stand in the tests.
 */
final class Document {
    private static final Path PLACE = Path.of("..", "shared", "DOC.md");
    private static final int PROMISES = 22;

    private final boolean there = Files.exists(PLACE);
    private final List<List<String>> lines = new ArrayList<>();
    private final List<List<String>> held = new ArrayList<>();

    Document() {
        for (int promise = 0; promise <= PROMISES; promise++) {
            lines.add(new ArrayList<>());
            held.add(new ArrayList<>());
        }
        if (!there) {
            System.out.println("no " + PLACE + " to look the sentences up in");
            return;
        }
        int promise = 0;
        for (String line : read()) {
            if (line.startsWith("## ")) {
                promise = promiseOf(line);
            } else {
                lines.get(promise).add(withoutFace(line));
            }
        }
    }

    /** Whether a promise, or what is said of all calls, has this sentence or this part of one. */
    boolean says(int promise, String sentence) {
        held.get(promise).add(sentence);
        return !there || stands(lines.get(promise), sentence) || stands(lines.get(0), sentence);
    }

    /** The parts of a promise that no test holds. */
    List<String> notHeld(int promise) {
        List<String> missed = new ArrayList<>();
        for (String line : lines.get(promise)) {
            for (String part : partsOf(line)) {
                if (held.get(promise).stream().noneMatch(s -> s.contains(part) || part.contains(s))) {
                    missed.add(part);
                }
            }
        }
        return missed;
    }

    private static boolean stands(List<String> among, String sentence) {
        return among.stream().anyMatch(line -> line.contains(sentence));
    }

    /** A line tells one thing, but for the conditions of an exception. What a parameter is called is no promise. */
    private static List<String> partsOf(String line) {
        if (line.isBlank() || line.startsWith("- `")) {
            return List.of();
        }
        String conditions = line.replaceFirst("^Throws `\\w+` if ", "");
        return conditions.equals(line) ? List.of(line) : List.of(conditions.split(", or "));
    }

    private static int promiseOf(String heading) {
        String number = heading.replaceFirst("^## Promise (\\d+):.*", "$1");
        return number.equals(heading) ? 0 : Integer.parseInt(number);
    }

    private static String withoutFace(String line) {
        return line.replaceFirst("^`[^`]*`: ", "").strip();
    }

    private static List<String> read() {
        try {
            return Files.readAllLines(PLACE);
        } catch (IOException thrown) {
            throw new UncheckedIOException(thrown);
        }
    }
}

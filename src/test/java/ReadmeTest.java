import java.io.IOException;
import java.lang.reflect.Method;
import java.lang.reflect.Modifier;
import java.nio.file.Files;
import java.nio.file.Path;
import java.util.List;
import java.util.function.Supplier;

/** README.md: the answers of its example are those of the class, and each call is told there. */
public final class ReadmeTest {
    private static final Path PLACE = Path.of("README.md");
    private static final String FIRST_LINE = "TypeFoundry foundry = new TypeFoundry();";

    private static List<String> lines = List.of();
    private static int shown;

    public static void main(String[] args) throws IOException {
        Checks.holds(0, "A letter foundry.");
        lines = Files.readAllLines(PLACE);
        example();
        Checks.due("calls of the example that are made here", callsOfTheExample(), () -> shown);
        eachCallIsTold();
        Checks.end("ReadmeTest");
    }

    private static void example() {
        TypeFoundry foundry = new TypeFoundry();
        int printer = 0;
        int word = Checks.word("fi");
        Checks.due("the word is written", true, () -> lineOf("int word = 6 * 27 + 9;").contains("\"fi\""));
        Checks.due("the word", word, () -> 6 * 27 + 9);
        shows("foundry.cast(5, 4);", () -> foundry.cast(5, 4));
        shows("foundry.cast(8, 2);", () -> foundry.cast(8, 2));
        shows("foundry.cast(26, 1);", () -> foundry.cast(26, 1));
        shows("int printer = foundry.come(40);", () -> foundry.come(40));
        shows("foundry.rent(printer, 5, 4);", () -> foundry.rent(printer, 5, 4));
        shows("foundry.rent(printer, 8, 2);", () -> foundry.rent(printer, 8, 2));
        shows("foundry.rent(printer, 26, 1);", () -> foundry.rent(printer, 26, 1));
        shows("foundry.times(printer, word);", () -> foundry.times(printer, word));
        shows("foundry.set(printer, word);", () -> foundry.set(printer, word));
        shows("foundry.bears(printer);", () -> foundry.bears(printer));
        shows("foundry.print(printer, 130);", () -> foundry.print(printer, 130));
        shows("foundry.distribute(printer);", () -> foundry.distribute(printer));
        shows("foundry.pass(7);", () -> foundry.pass(7));
        shows("foundry.pay(printer);", () -> foundry.pay(printer));
        shows("foundry.giveBack(printer, 26, 1);", () -> foundry.giveBack(printer, 26, 1));
        shows("foundry.melt(2);", () -> foundry.melt(2));
        shows("foundry.count(1);", () -> foundry.count(1));
    }

    /** The page has this call, and behind it the answer that the call gives. */
    private static void shows(String call, Supplier<Object> made) {
        shown++;
        String behind = lineOf(call).replaceFirst("^[^/]*// ", "").replaceFirst(":.*", "");
        Checks.due(call, behind, () -> String.valueOf(Checks.answerOf(made)));
    }

    private static String lineOf(String call) {
        return lines.stream().filter(line -> line.startsWith(call)).findFirst().orElse("not on the page");
    }

    private static int callsOfTheExample() {
        int calls = 0;
        for (int i = Math.max(lines.indexOf(FIRST_LINE), 0); i < lines.size() && !lines.get(i).equals("```"); i++) {
            calls += lines.get(i).contains("foundry.") ? 1 : 0;
        }
        return calls;
    }

    private static void eachCallIsTold() {
        for (Method method : TypeFoundry.class.getDeclaredMethods()) {
            if (Modifier.isPublic(method.getModifiers())) {
                String row = "| `" + method.getName() + "(";
                Checks.due("a row of " + method.getName(), true, () -> lines.stream().anyMatch(line -> line.startsWith(row)));
            }
        }
    }
}

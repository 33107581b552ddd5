/** Promises 9 to 11: set, print, distribute. */
public final class FormsTest {
    private static final String FIRST_NAMED = "If several exceptions apply, the one that is named first is thrown.";

    public static void main(String[] args) {
        setMovesTheSorts();
        setReturnsHowManySorts();
        setPrinter();
        setNoWord();
        setCannotBeSet();
        setMoreThan60();
        setFirstNamed();
        printWearsForEachFull50();
        printWearsTheFormAlone();
        printBreaks();
        printReturnsHowManyBreak();
        printPrinter();
        printCopies();
        printEmptyForm();
        printFirstNamed();
        distributePutsAllBack();
        distributeReturnsHowMany();
        distributePrinter();
        Checks.end("FormsTest", 9, 10, 11);
    }

    private static void setMovesTheSorts() {
        Checks.holds(9, "Sets a word from the case of a printer: its sorts are in the form then.");
        TypeFoundry f = Foundries.caseOf("officeoffice", 1, 1, 1);
        f.set(0, Checks.word("office"));
        int[][] left = {{14, 1}, {5, 4}, {8, 1}, {2, 1}, {4, 1}, {26, 1}, {27, 1}, {28, 0}};
        for (int[] row : left) {
            Checks.due("sign " + row[0] + " in the case", row[1], () -> f.sorts(0, row[0], 0));
        }
        Checks.due("the case", 10, () -> f.printer(0, 2));
        Checks.due("the form", 5, () -> f.printer(0, 3));
        Checks.due("words", 1, () -> f.printer(0, 6));
        f.distribute(0);
        Checks.due("the same sorts are back", "15 1 4", () -> f.printer(0, 2) + " " + f.sorts(0, 28, 0) + " " + f.sorts(0, 5, 0));
        TypeFoundry stock = Foundries.withStock(0, 5);
        stock.come(0);
        Checks.due("not from the stock", Checks.BAD_STATE, () -> stock.set(0, 1));
    }

    private static void setReturnsHowManySorts() {
        Checks.holds(9, "Returns how many sorts it takes.");
        String[][] rows = {{"a", "1"}, {"fi", "1"}, {"ffi", "2"}, {"fifl", "2"}, {"aaaaaa", "6"}, {"fiflff", "3"}, {"fififi", "5"},
            {"ffffff", "5"}, {"office", "5"}, {"iff", "2"}};
        for (String[] row : rows) {
            TypeFoundry f = Foundries.caseOf("aaaaaaffffiiioce", 1, 1, 1);
            Checks.due(row[0], Integer.valueOf(row[1]), () -> f.set(0, Checks.word(row[0])));
            Checks.due("the form", Integer.valueOf(row[1]), () -> f.printer(0, 3));
        }
    }

    private static void setPrinter() {
        Checks.holds(9, "there is no such printer");
        for (int printer : Foundries.NO_PRINTERS) {
            Checks.refused("set(" + printer + ", f)", Checks.BAD_INDEX, Foundries::busy, f -> f.set(printer, 6));
        }
        Checks.refused("no printer came", Checks.BAD_INDEX, TypeFoundry::new, f -> f.set(0, 1));
    }

    private static void setNoWord() {
        Checks.holds(9, "word is no word");
        for (int word : Foundries.NO_WORDS) {
            Checks.refused("set(0, " + word + ")", Checks.BAD_ARGUMENT, Foundries::busy, f -> f.set(0, word));
        }
        Checks.due("the least word", 1, () -> Foundries.caseOf("a").set(0, 1));
        Checks.due("the greatest word", 6, () -> Foundries.caseOf("zzzzzz").set(0, 387420488));
    }

    private static void setCannotBeSet() {
        Checks.holds(9, "it cannot be set");
        Checks.refused("the last letter lacks", Checks.BAD_STATE, () -> Foundries.caseOf("abcde"), f -> f.set(0, Checks.word("abcdez")));
        Checks.refused("the first letter lacks", Checks.BAD_STATE, () -> Foundries.caseOf("abcde"), f -> f.set(0, Checks.word("zabcde")));
        Checks.refused("one of two lacks", Checks.BAD_STATE, () -> Foundries.caseOf("abcde"), f -> f.set(0, Checks.word("abca")));
        Checks.refused("an empty case", Checks.BAD_STATE, () -> Foundries.caseOf("a"), f -> f.set(1, 1));
        Checks.refused("all is in the form", Checks.BAD_STATE, Foundries::busy, f -> f.set(0, Checks.word("ii")));
        Checks.refused("no way back from ff", Checks.BAD_STATE, () -> Foundries.caseOf("f", 1, 0, 1), f -> f.set(0, Checks.word("ffi")));
        TypeFoundry again = Foundries.caseOf("abcde");
        again.set(0, Checks.word("abcde"));
        again.distribute(0);
        Checks.due("put back it can", 5, () -> again.set(0, Checks.word("edcba")));
    }

    private static void setMoreThan60() {
        Checks.holds(9, "there would be more than 60 sorts in the form");
        for (int sorts = 1; sorts <= 6; sorts++) {
            int word = Checks.word("a".repeat(sorts));
            int edge = 60 - sorts;
            Checks.refused(sorts + " more make 61", Checks.BAD_STATE, () -> Foundries.formOf(edge + 1), f -> f.set(0, word));
            TypeFoundry f = Foundries.formOf(edge);
            Checks.due(sorts + " more make 60", sorts, () -> f.set(0, word));
            Checks.due("60", 60, () -> f.printer(0, 3));
        }
        TypeFoundry f = formOf59AndLigatures();
        Checks.due("a ligature is one sort", 1, () -> f.set(0, Checks.word("fi")));
        Checks.refused("two ligatures make 61", Checks.BAD_STATE, FormsTest::formOf59AndLigatures, g -> g.set(0, Checks.word("fifl")));
        TypeFoundry other = Foundries.formOf(60);
        other.cast(0, 6);
        other.rent(1, 0, 6);
        Checks.due("another's form has room", 6, () -> other.set(1, Checks.word("aaaaaa")));
        other.distribute(0);
        Checks.due("put back there is room", 6, () -> other.set(0, Checks.word("aaaaaa")));
        TypeFoundry broken = Foundries.formOf(60);
        broken.print(0, 500);
        Checks.due("broken sorts leave room", 6, () -> broken.set(0, Checks.word("aaaaaa")));
    }

    private static TypeFoundry formOf59AndLigatures() {
        TypeFoundry f = Foundries.formOf(59);
        for (int sign : new int[] {26, 27}) {
            f.cast(sign, 1);
            f.rent(0, sign, 1);
        }
        return f;
    }

    private static void setFirstNamed() {
        Checks.holds(9, FIRST_NAMED);
        for (int word : Foundries.NO_WORDS) {
            for (int printer : Foundries.NO_PRINTERS) {
                Checks.refused("printer and word", Checks.BAD_INDEX, Foundries::busy, f -> f.set(printer, word));
            }
            Checks.refused("word and a full form", Checks.BAD_ARGUMENT, () -> Foundries.formOf(60), f -> f.set(0, word));
            Checks.refused("word and an empty case", Checks.BAD_ARGUMENT, () -> Foundries.formOf(60), f -> f.set(1, word));
        }
        Checks.refused("printer and what lacks", Checks.BAD_INDEX, Foundries::busy, f -> f.set(2, Checks.word("zzz")));
    }

    private static TypeFoundry oneInTheForm(int wear) {
        TypeFoundry f = Foundries.caseOf("");
        Foundries.put(f, 0, 0, 1, wear);
        f.set(0, 1);
        return f;
    }

    private static void printWearsForEachFull50() {
        Checks.holds(10, "each sort in it gets 1 more wear for each full 50 copies");
        int[][] rows = {{1, 0}, {49, 0}, {50, 1}, {51, 1}, {99, 1}, {100, 2}, {149, 2}, {150, 3}, {449, 8}, {450, 9}, {499, 9}};
        for (int[] row : rows) {
            TypeFoundry f = Foundries.caseOf("abf", 1, 0, 0);
            f.set(0, Checks.word("abfi"));
            f.print(0, row[0]);
            Checks.due(row[0] + " copies", 3 * row[1], () -> f.printer(0, 4));
            Checks.due("copies in all", row[0], () -> f.printer(0, 5));
            f.distribute(0);
            for (int sign : new int[] {0, 1, 26}) {
                Checks.due("each of them", 1, () -> f.sorts(0, sign, row[1]));
            }
        }
        TypeFoundry twice = oneInTheForm(0);
        twice.print(0, 49);
        twice.print(0, 49);
        Checks.due("copies are not kept for the next print", 0, () -> twice.printer(0, 4));
        Checks.due("but counted", 98, () -> twice.printer(0, 5));
        TypeFoundry mixed = oneInTheForm(5);
        mixed.cast(0, 2);
        mixed.rent(0, 0, 2);
        mixed.set(0, Checks.word("aa"));
        mixed.print(0, 100);
        mixed.distribute(0);
        Checks.due("5 and 2", 1, () -> mixed.sorts(0, 0, 7));
        Checks.due("0 and 2, two of them", 2, () -> mixed.sorts(0, 0, 2));
    }

    private static void printWearsTheFormAlone() {
        Checks.holds(10, "Prints copies from the form");
        TypeFoundry f = Foundries.caseOf("ab");
        f.cast(0, 2);
        f.rent(1, 0, 1);
        f.set(0, 1);
        f.set(1, 1);
        f.print(0, 100);
        Checks.due("not the case", 1, () -> f.sorts(0, 1, 0));
        Checks.due("not the stock", 1, () -> f.sorts(-1, 0, 0));
        Checks.due("not another's form", 0, () -> f.printer(1, 4));
        Checks.due("not another's copies", 0, () -> f.printer(1, 5));
    }

    private static void printBreaks() {
        Checks.holds(10, "those that would have more than 9 break, and are lost");
        for (int wear = 0; wear <= 9; wear++) {
            int w = wear;
            int bearable = 50 * (10 - wear) - 1;
            TypeFoundry edge = oneInTheForm(wear);
            Checks.due("wear " + w + ", " + bearable + " copies", 0, () -> edge.print(0, bearable));
            Checks.due("wear 9", 9, () -> edge.printer(0, 4));
            TypeFoundry over = oneInTheForm(wear);
            Checks.due("wear " + w + ", one more", 1, () -> over.print(0, bearable + 1));
            Checks.due("lost from the form", 0, () -> over.printer(0, 3));
            over.distribute(0);
            Checks.due("lost for the case", 0, () -> over.printer(0, 2));
            Checks.due("broken in all", 1, () -> over.count(6));
            TypeFoundry most = oneInTheForm(wear);
            Checks.due("wear " + w + ", 1000 copies", 1, () -> most.print(0, 1000));
        }
        TypeFoundry some = oneInTheForm(7);
        some.cast(1, 3);
        some.rent(0, 1, 3);
        some.set(0, Checks.word("bbb"));
        Checks.due("just the worn one", 1, () -> some.print(0, 150));
        Checks.due("3 of wear 3 stay", 9, () -> some.printer(0, 4));
    }

    private static void printReturnsHowManyBreak() {
        Checks.holds(10, "Returns how many sorts break.");
        Checks.due("none", 0, () -> Foundries.formOf(60).print(0, 499));
        Checks.due("all", 60, () -> Foundries.formOf(60).print(0, 500));
        Checks.due("all, 1000 copies", 60, () -> Foundries.formOf(60).print(0, 1000));
        TypeFoundry f = oneInTheForm(9);
        f.cast(26, 2);
        f.rent(0, 26, 2);
        f.set(0, Checks.word("fifi"));
        Checks.due("one of three", 1, () -> f.print(0, 50));
        Checks.due("two of two", 2, () -> f.print(0, 450));
        Checks.due("broken in all", 3, () -> f.count(6));
        Checks.due("copies in all, all broken ones too", 450 + 50 + 450, () -> f.printer(0, 5));
    }

    private static void printPrinter() {
        Checks.holds(10, "there is no such printer");
        for (int printer : Foundries.NO_PRINTERS) {
            Checks.refused("print(" + printer + ", 50)", Checks.BAD_INDEX, Foundries::busy, f -> f.print(printer, 50));
        }
        Checks.refused("no printer came", Checks.BAD_INDEX, TypeFoundry::new, f -> f.print(0, 1));
    }

    private static void printCopies() {
        Checks.holds(10, "copies is not 1 to 1000");
        for (int copies : new int[] {0, -1, -50, 1001, Foundries.LEAST, Foundries.MOST}) {
            Checks.refused("print(0, " + copies + ")", Checks.BAD_ARGUMENT, Foundries::busy, f -> f.print(0, copies));
        }
        TypeFoundry f = oneInTheForm(0);
        Checks.due("the least", 0, () -> f.print(0, 1));
        Checks.due("the most", 1, () -> f.print(0, 1000));
        Checks.due("copies in all", 1001, () -> f.printer(0, 5));
    }

    private static void printEmptyForm() {
        Checks.holds(10, "the form is empty");
        for (int copies : new int[] {1, 49, 50, 1000}) {
            Checks.refused("never set", Checks.BAD_STATE, () -> Foundries.caseOf("a"), f -> f.print(0, copies));
            Checks.refused("another's is not", Checks.BAD_STATE, Foundries::busy, f -> f.print(1, copies));
        }
        TypeFoundry broken = Foundries.formOf(60);
        broken.print(0, 500);
        Checks.due("all broke", Checks.BAD_STATE, () -> broken.print(0, 1));
        TypeFoundry back = Foundries.formOf(1);
        back.distribute(0);
        Checks.due("put back", Checks.BAD_STATE, () -> back.print(0, 1));
        Checks.due("one sort is enough", 0, () -> Foundries.formOf(1).print(0, 1));
    }

    private static void printFirstNamed() {
        Checks.holds(10, FIRST_NAMED);
        for (int copies : new int[] {0, 1001}) {
            for (int printer : Foundries.NO_PRINTERS) {
                Checks.refused("printer and copies", Checks.BAD_INDEX, Foundries::busy, f -> f.print(printer, copies));
            }
            Checks.refused("copies and an empty form", Checks.BAD_ARGUMENT, Foundries::busy, f -> f.print(1, copies));
        }
    }

    private static void distributePutsAllBack() {
        Checks.holds(11, "Puts all sorts of the form back into the case.");
        TypeFoundry f = Foundries.caseOfThreeWears(0);
        f.cast(28, 1);
        f.rent(0, 28, 1);
        f.set(0, Checks.word("aaaaa"));
        f.set(0, Checks.word("ff"));
        f.print(0, 100);
        f.distribute(0);
        int[][] rows = {{0, 0, 3}, {0, 3, 1}, {0, 5, 1}, {0, 7, 0}, {0, 9, 4}, {28, 0, 0}, {28, 2, 1}};
        for (int[] row : rows) {
            Checks.due("sign " + row[0] + ", wear " + row[1], row[2], () -> f.sorts(0, row[0], row[1]));
        }
        int[] numbers = {0, 0, 10, 0, 0, 250, 0};
        for (int what = 2; what < numbers.length; what++) {
            int w = what;
            Checks.due("printer(0, " + w + ")", numbers[w], () -> f.printer(0, w));
        }
        Checks.due("nothing goes to the stock", 0, () -> f.count(3));
    }

    private static void distributeReturnsHowMany() {
        Checks.holds(11, "Returns how many.");
        for (int sorts : new int[] {0, 1, 59, 60}) {
            TypeFoundry f = Foundries.formOf(sorts);
            Checks.due("a form of " + sorts, sorts, () -> f.distribute(0));
            Checks.due("once more", 0, () -> f.distribute(0));
            Checks.due("the case", 67, () -> f.printer(0, 2));
        }
        TypeFoundry broken = Foundries.formOf(60);
        broken.print(0, 500);
        Checks.due("all broke", 0, () -> broken.distribute(0));
        Checks.due("another one's", 0, () -> Foundries.formOf(60).distribute(1));
    }

    private static void distributePrinter() {
        Checks.holds(11, "there is no such printer");
        for (int printer : Foundries.NO_PRINTERS) {
            Checks.refused("distribute(" + printer + ")", Checks.BAD_INDEX, Foundries::busy, f -> f.distribute(printer));
        }
        Checks.refused("no printer came", Checks.BAD_INDEX, TypeFoundry::new, f -> f.distribute(0));
    }
}

import java.util.function.Function;

/** Promises 16 to 21: takes, lacks, bears, saves, times, mean. */
public final class WouldBeTest {
    private static final String FIRST_NAMED = "If several exceptions apply, the one that is named first is thrown.";

    public static void main(String[] args) {
        takesHowManySorts();
        takesWhateverIsInTheForm();
        takesPrinter();
        takesNoWord();
        takesFirstNamed();
        lacksTheMost();
        lacksTheLeastOfSeveral();
        lacksWithoutLigatures();
        lacksNone();
        lacksPrinter();
        lacksNoWord();
        lacksFirstNamed();
        bearsTheMostCopies();
        bearsNothing();
        bearsPrinter();
        savesTheMost();
        savesTheLeastOfSeveral();
        savesNone();
        savesAsManyAsAreNeeded();
        savesNoWord();
        timesOneAfterTheOther();
        timesLigaturesRunOut();
        timesFromTheCase();
        timesPrinter();
        timesNoWord();
        timesFirstNamed();
        meanOfTheStock();
        meanOfNone();
        Checks.end("WouldBeTest", 16, 17, 18, 19, 20, 21);
    }

    interface Asked {
        int of(TypeFoundry f, int printer, int word);
    }

    private static void refusesPrinters(String name, Asked call) {
        for (int printer : Foundries.NO_PRINTERS) {
            Checks.refused(name + "(" + printer + ", 1)", Checks.BAD_INDEX, Foundries::busy, f -> call.of(f, printer, 1));
        }
        Checks.refused("no printer came", Checks.BAD_INDEX, TypeFoundry::new, f -> call.of(f, 0, 1));
    }

    private static void refusesNoWords(String name, Asked call) {
        for (int word : Foundries.NO_WORDS) {
            Checks.refused(name + "(0, " + word + ")", Checks.BAD_ARGUMENT, Foundries::busy, f -> call.of(f, 0, word));
        }
    }

    private static void refusesPrintersFirst(String name, Asked call) {
        for (int word : Foundries.NO_WORDS) {
            for (int printer : Foundries.NO_PRINTERS) {
                Checks.refused(name + ": printer and word", Checks.BAD_INDEX, Foundries::busy, f -> call.of(f, printer, word));
            }
        }
    }

    private static void takesHowManySorts() {
        Checks.holds(16, "Returns how many sorts it would take, set now; -1 if it cannot be set");
        Object[][] rows = {{"a", 1}, {"zz", 2}, {"zzz", -1}, {"fi", 1}, {"ffi", 2}, {"fifi", 3}, {"fififi", -1}, {"ffff", 3},
            {"fffff", -1}, {"flfifl", 4}, {"b", -1}, {"af", 2}, {"afb", -1}, {"iif", -1}, {"fffi", 2}};
        for (Object[] row : rows) {
            int word = Checks.word((String) row[0]);
            Checks.told("takes " + row[0], row[1], () -> Foundries.caseOf("affilzz", 1, 1, 1), f -> f.takes(0, word));
            Object set = row[1].equals(-1) ? Checks.BAD_STATE : row[1];
            Checks.due("set " + row[0] + " does so", set, () -> Foundries.caseOf("affilzz", 1, 1, 1).set(0, word));
        }
        Checks.told("an empty case", -1, () -> Foundries.caseOf("a"), f -> f.takes(1, 1));
    }

    private static void takesWhateverIsInTheForm() {
        Checks.holds(16, "(whatever is in the form)");
        int word = Checks.word("aaaaaa");
        for (int sorts : new int[] {54, 55, 59, 60}) {
            Checks.told(sorts + " in the form", 6, () -> Foundries.formOf(sorts), f -> f.takes(0, word));
        }
        TypeFoundry f = Foundries.caseOf("ab");
        f.set(0, 1);
        Checks.due("those of the form are not there", -1, () -> f.takes(0, 1));
    }

    private static void takesPrinter() {
        Checks.holds(16, "there is no such printer");
        refusesPrinters("takes", TypeFoundry::takes);
    }

    private static void takesNoWord() {
        Checks.holds(16, "word is no word");
        refusesNoWords("takes", TypeFoundry::takes);
        Checks.due("the least word", 1, () -> Foundries.caseOf("a").takes(0, 1));
        Checks.due("the greatest word", 6, () -> Foundries.caseOf("zzzzzz").takes(0, 387420488));
    }

    private static void takesFirstNamed() {
        Checks.holds(16, FIRST_NAMED);
        refusesPrintersFirst("takes", TypeFoundry::takes);
    }

    private static void lacksOf(String word, int due, String inTheCase) {
        Checks.told(word + " from " + inTheCase, due, () -> Foundries.caseOf(inTheCase), f -> f.lacks(0, Checks.word(word)));
    }

    private static void lacksTheMost() {
        Checks.holds(17, "how often it is in the word, less its sorts in the case");
        lacksOf("a", 0, "b");
        lacksOf("z", 25, "a");
        lacksOf("abb", 1, "");
        lacksOf("aabbb", 1, "");
        lacksOf("aabbb", 0, "bb");
        lacksOf("aaaaab", 1, "aaaaa");
        lacksOf("aaaaab", 0, "aaa");
        lacksOf("zzzzzz", 25, "zzzzz");
        TypeFoundry worn = Foundries.caseOfThreeWears(0);
        worn.giveBack(0, 0, 5);
        Checks.due("4 of any wear: two lack", 0, () -> worn.lacks(0, Checks.word("aaaaaa")));
        worn.set(0, Checks.word("aa"));
        Checks.due("those of the form are not in the case", 0, () -> worn.lacks(0, Checks.word("aaab")));
    }

    private static void lacksTheLeastOfSeveral() {
        Checks.holds(17, "Returns the letter with the greatest lack, of several the least one");
        lacksOf("ba", 0, "");
        lacksOf("zyx", 23, "");
        lacksOf("zzyy", 24, "");
        lacksOf("zzyyx", 24, "");
        lacksOf("cbacba", 0, "");
        lacksOf("cbacba", 1, "a");
        lacksOf("cbacba", 2, "ab");
    }

    private static void lacksWithoutLigatures() {
        Checks.holds(17, "without any ligatures");
        Object[][] rows = {{"fi", 5}, {"fl", 5}, {"ff", 5}, {"ii", 8}, {"ffi", 5}};
        for (Object[] row : rows) {
            Checks.told((String) row[0], row[1], () -> Foundries.caseOf("", 3, 3, 3), f -> f.lacks(0, Checks.word((String) row[0])));
        }
        Checks.told("i lacks, f does not", 8, () -> Foundries.caseOf("f", 3, 3, 3), f -> f.lacks(0, Checks.word("fi")));
        Checks.told("none lacks, without a ligature", -1, () -> Foundries.caseOf("ffi"), f -> f.lacks(0, Checks.word("ffi")));
    }

    private static void lacksNone() {
        Checks.holds(17, "-1 if none lacks");
        lacksOf("a", -1, "a");
        lacksOf("aaaaaa", -1, "aaaaaa");
        lacksOf("abcabc", -1, "aabbccz");
        lacksOf("a", -1, "aaaaaaaaaa");
    }

    private static void lacksPrinter() {
        Checks.holds(17, "there is no such printer");
        refusesPrinters("lacks", TypeFoundry::lacks);
    }

    private static void lacksNoWord() {
        Checks.holds(17, "word is no word");
        refusesNoWords("lacks", TypeFoundry::lacks);
        Checks.due("the least word", 0, () -> Foundries.caseOf("").lacks(0, 1));
        Checks.due("the greatest word", 25, () -> Foundries.caseOf("").lacks(0, 387420488));
    }

    private static void lacksFirstNamed() {
        Checks.holds(17, FIRST_NAMED);
        refusesPrintersFirst("lacks", TypeFoundry::lacks);
    }

    private static TypeFoundry formOfWears(int... wears) {
        TypeFoundry f = Foundries.caseOf("");
        for (int i = 0; i < wears.length; i++) {
            Foundries.put(f, 0, i, 1, wears[i]);
        }
        for (int i = 0; i < wears.length; i++) {
            f.set(0, i + 1);
        }
        return f;
    }

    private static void bearsTheMostCopies() {
        Checks.holds(18, "Returns the most copies that could be printed from the form at once so that no sort breaks: 50 * (10 less the greatest wear in it), less 1");
        int[] due = {499, 449, 399, 349, 299, 249, 199, 149, 99, 49};
        for (int wear = 0; wear <= 9; wear++) {
            int w = wear;
            Checks.told("wear " + w, due[w], () -> formOfWears(w), f -> f.bears(0));
            Checks.due("so many break none", 0, () -> formOfWears(w).print(0, due[w]));
            Checks.due("one more breaks", 1, () -> formOfWears(w).print(0, due[w] + 1));
        }
        Checks.told("the greatest first", 49, () -> formOfWears(9, 0, 3), f -> f.bears(0));
        Checks.told("the greatest last", 149, () -> formOfWears(0, 3, 7), f -> f.bears(0));
        Checks.told("the greatest between", 199, () -> formOfWears(1, 6, 0), f -> f.bears(0));
        TypeFoundry f = formOfWears(9, 2);
        f.print(0, 50);
        Checks.due("the worst one broke", 349, () -> f.bears(0));
        TypeFoundry ligature = Foundries.caseOf("");
        Foundries.put(ligature, 0, 28, 1, 8);
        ligature.set(0, Checks.word("ff"));
        Checks.due("a ligature counts, too", 99, () -> ligature.bears(0));
    }

    private static void bearsNothing() {
        Checks.holds(18, "0 if the form is empty");
        Checks.told("never set", 0, () -> Foundries.caseOf("a"), f -> f.bears(0));
        Checks.told("another's is not", 0, Foundries::busy, f -> f.bears(1));
        TypeFoundry broken = formOfWears(3);
        broken.print(0, 1000);
        Checks.due("all broke", 0, () -> broken.bears(0));
        TypeFoundry back = formOfWears(3);
        back.distribute(0);
        Checks.due("put back", 0, () -> back.bears(0));
    }

    private static void bearsPrinter() {
        Checks.holds(18, "there is no such printer");
        for (int printer : Foundries.NO_PRINTERS) {
            Checks.refused("bears(" + printer + ")", Checks.BAD_INDEX, Foundries::busy, f -> f.bears(printer));
        }
        Checks.refused("no printer came", Checks.BAD_INDEX, TypeFoundry::new, f -> f.bears(0));
    }

    private static void savesOf(String word, String other, int due) {
        int one = Checks.word(word);
        int two = Checks.word(other);
        Checks.told(word + " and " + other, due, Foundries::busy, f -> f.saves(one, two));
        Checks.told(other + " and " + word, due, Foundries::busy, f -> f.saves(two, one));
    }

    private static void savesTheMost() {
        Checks.holds(19, "Returns the ligature, 26 to 28, that is taken most often as both words are set with ligatures without end");
        savesOf("fi", "a", 26);
        savesOf("fl", "a", 27);
        savesOf("ff", "a", 28);
        savesOf("office", "a", 28);
        savesOf("flfl", "fi", 27);
        savesOf("ffffff", "fififi", 26);
        savesOf("ffffff", "fifi", 28);
        savesOf("flfifl", "fifi", 26);
        savesOf("flfiff", "ffa", 28);
        savesOf("fififi", "fififi", 26);
        savesOf("flflfl", "flflfl", 27);
        savesOf("ffffff", "ffffff", 28);
    }

    private static void savesTheLeastOfSeveral() {
        Checks.holds(19, "of several the least one");
        savesOf("fi", "fl", 26);
        savesOf("fi", "ff", 26);
        savesOf("fl", "ff", 27);
        savesOf("fffl", "a", 27);
        savesOf("fffi", "fl", 26);
        savesOf("flfiff", "a", 26);
        savesOf("ffffff", "flflfl", 27);
    }

    private static void savesNone() {
        Checks.holds(19, "-1 if none is");
        savesOf("a", "zzzzzz", -1);
        savesOf("f", "i", -1);
        savesOf("f", "f", -1);
        savesOf("of", "if", -1);
        savesOf("lf", "if", -1);
        savesOf("fafafa", "faifal", -1);
    }

    private static void savesAsManyAsAreNeeded() {
        Checks.holds(19, "if there are as many of each as are needed: in a word each pair that setting would take for it saves a sort");
        savesOf("ffi", "a", 28);
        savesOf("ffl", "a", 28);
        savesOf("fff", "fi", 26);
        savesOf("ffff", "fi", 28);
        savesOf("ffi", "fi", 26);
        savesOf("fffi", "ff", 28);
        Checks.told("no sort is there at all", 26, TypeFoundry::new, f -> f.saves(Checks.word("fififi"), Checks.word("fififi")));
    }

    private static void savesNoWord() {
        Checks.holds(19, "word or other is no word");
        for (int word : Foundries.NO_WORDS) {
            Checks.refused("saves(" + word + ", 1)", Checks.BAD_ARGUMENT, Foundries::busy, f -> f.saves(word, 1));
            Checks.refused("saves(1, " + word + ")", Checks.BAD_ARGUMENT, Foundries::busy, f -> f.saves(1, word));
            Checks.refused("saves(" + word + ", " + word + ")", Checks.BAD_ARGUMENT, Foundries::busy, f -> f.saves(word, word));
        }
        Checks.due("the least words", -1, () -> new TypeFoundry().saves(1, 1));
        Checks.due("the greatest words", -1, () -> new TypeFoundry().saves(387420488, 387420488));
    }

    private static void timesOf(String word, int due, String letters, int fi, int fl, int ff) {
        Checks.told(word + " from " + letters + " and " + fi + ", " + fl + ", " + ff, due,
                () -> Foundries.caseOf(letters, fi, fl, ff), f -> f.times(0, Checks.word(word)));
        TypeFoundry f = Foundries.caseOf(letters, fi, fl, ff);
        int set = 0;
        while (set < 60 && Checks.answerOf(() -> f.set(0, Checks.word(word))) != Checks.BAD_STATE) {
            set++;
        }
        int times = set;
        Checks.due("set that often", due, () -> times);
    }

    private static void timesOneAfterTheOther() {
        Checks.holds(20, "Returns how many times the word could be set, one time after the other, from the case.");
        timesOf("a", 0, "b", 0, 0, 0);
        timesOf("a", 1, "a", 0, 0, 0);
        timesOf("a", 5, "aaaaabb", 0, 0, 0);
        timesOf("aa", 2, "aaaaabb", 0, 0, 0);
        timesOf("aaaaa", 1, "aaaaabb", 0, 0, 0);
        timesOf("aaaaaa", 0, "aaaaabb", 0, 0, 0);
        timesOf("ab", 2, "aaaaabb", 0, 0, 0);
        timesOf("aba", 2, "aaaaabb", 0, 0, 0);
        timesOf("abc", 0, "aaaaabb", 0, 0, 0);
    }

    private static void timesLigaturesRunOut() {
        Checks.holds(20, "one time after the other");
        timesOf("fi", 2, "", 2, 0, 0);
        timesOf("fi", 7, "fffffiiiii", 2, 0, 1);
        timesOf("fi", 6, "fffffiiii", 2, 0, 1);
        timesOf("ffi", 4, "fffffiiiii", 2, 0, 1);
        timesOf("fififi", 1, "ffii", 1, 0, 0);
        timesOf("fififi", 2, "ffii", 4, 0, 0);
        timesOf("ffff", 3, "ffffff", 0, 0, 3);
        timesOf("fifl", 3, "fffil", 2, 2, 0);
        timesOf("ffi", 0, "f", 1, 0, 1);
        timesOf("flfi", 1, "f", 1, 1, 0);
    }

    private static void timesFromTheCase() {
        Checks.holds(20, "from the case");
        Checks.told("the form is not full for it", 67, () -> Foundries.formOf(0), f -> f.times(0, 1));
        Checks.told("a full form, and what is left", 7, () -> Foundries.formOf(60), f -> f.times(0, 1));
        Checks.told("another's case", 0, () -> Foundries.formOf(0), f -> f.times(1, 1));
        TypeFoundry many = Foundries.withStock(25, 900);
        many.come(0);
        for (int i = 0; i < 4; i++) {
            many.rent(0, 25, 200);
        }
        Checks.due("800 z", 800, () -> many.times(0, 26));
        Checks.due("zzzzzz", 133, () -> many.times(0, 387420488));
    }

    private static void timesPrinter() {
        Checks.holds(20, "there is no such printer");
        refusesPrinters("times", TypeFoundry::times);
    }

    private static void timesNoWord() {
        Checks.holds(20, "word is no word");
        refusesNoWords("times", TypeFoundry::times);
        Checks.due("the least word", 1, () -> Foundries.caseOf("a").times(0, 1));
        Checks.due("the greatest word", 1, () -> Foundries.caseOf("zzzzzz").times(0, 387420488));
    }

    private static void timesFirstNamed() {
        Checks.holds(20, FIRST_NAMED);
        refusesPrintersFirst("times", TypeFoundry::times);
    }

    private static void meanOfTheStock() {
        Checks.holds(21, "Returns the mean wear of all sorts in the stock");
        Function<TypeFoundry, Object> mean = TypeFoundry::mean;
        Checks.told("3 of 0, 2 of 3, 4 of 7", 34.0 / 9, () -> Foundries.stockOfThreeWears(0), mean);
        Checks.told("ligatures", 34.0 / 9, () -> Foundries.stockOfThreeWears(28), mean);
        Checks.told("new ones", 0.0, () -> Foundries.withStock(3, 900), mean);
        TypeFoundry worst = Foundries.caseOf("");
        Foundries.stock(worst, 0, 0, 2, 9);
        Checks.due("the greatest", 9.0, worst::mean);
        worst.cast(5, 1);
        Checks.due("all signs", 18.0 / 3, worst::mean);
        worst.cast(5, 4);
        Checks.due("a part of a wear", 18.0 / 7, worst::mean);
    }

    private static void meanOfNone() {
        Checks.holds(21, "0 if there are none");
        Checks.told("a new object", 0.0, TypeFoundry::new, TypeFoundry::mean);
        TypeFoundry f = Foundries.caseOf("");
        Foundries.put(f, 0, 0, 2, 9);
        f.set(0, 1);
        Checks.due("all in a case and a form", 0.0, f::mean);
        f.giveBack(0, 0, 1);
        Checks.due("one in the stock", 9.0, f::mean);
        f.melt(1);
        Checks.due("all melted", 0.0, f::mean);
    }
}

/** Promises 13 to 22: sorts, printer, count, takes, lacks, bears, saves, times, mean, digest. */
public final class AnswersTest {
    public static void main(String[] args) {
        sorts();
        printer();
        count();
        takes();
        lacks();
        bears();
        saves();
        times();
        mean();
        digest();
        Checks.end("AnswersTest");
    }

    private static void sorts() {
        TypeFoundry f = PrintersTest.caseOf("aab", 0, 0, 2);
        f.cast(0, 7);
        f.cast(28, 3);
        Checks.due("stock a", 7, () -> f.sorts(-1, 0, 0));
        Checks.due("stock ff", 3, () -> f.sorts(-1, 28, 0));
        Checks.due("case a", 2, () -> f.sorts(0, 0, 0));
        Checks.due("case ff", 2, () -> f.sorts(0, 28, 0));
        Checks.due("just this wear", 0, () -> f.sorts(0, 0, 1));
        f.set(0, Checks.word("ab"));
        Checks.due("the form is not the case", 1, () -> f.sorts(0, 0, 0));
        f.print(0, 450);
        f.distribute(0);
        Checks.due("wear 9", 1, () -> f.sorts(0, 0, 9));
        Checks.due("wear 9 is not wear 8", 0, () -> f.sorts(0, 0, 8));
        Checks.refused("printer -2", Checks.BAD_INDEX, f, () -> f.sorts(-2, 0, 0));
        Checks.refused("printer 1", Checks.BAD_INDEX, f, () -> f.sorts(1, 0, 0));
        Checks.refused("printer 6", Checks.BAD_INDEX, f, () -> f.sorts(6, 0, 0));
        Checks.refused("sign -1", Checks.BAD_INDEX, f, () -> f.sorts(-1, -1, 0));
        Checks.refused("sign 29", Checks.BAD_INDEX, f, () -> f.sorts(0, 29, 0));
        Checks.refused("wear -1", Checks.BAD_INDEX, f, () -> f.sorts(0, 1, -1));
        Checks.refused("wear 10", Checks.BAD_INDEX, f, () -> f.sorts(-1, 0, 10));
    }

    private static void printer() {
        TypeFoundry f = PrintersTest.caseOf("aabbccdd", 0, 0, 0);
        f.come(44);
        f.set(0, Checks.word("ab"));
        f.set(0, Checks.word("cda"));
        f.print(0, 120);
        f.pass(3);
        int[] want = {0, 3, 3, 5, 10, 120, 2};
        for (int what = 0; what < want.length; what++) {
            int asked = what;
            Checks.due("printer(0, " + what + ")", want[what], () -> f.printer(0, asked));
            Checks.due("printer(1, " + what + ")", what == 0 ? 44 : 0, () -> f.printer(1, asked));
        }
        Checks.refused("printer 2", Checks.BAD_INDEX, f, () -> f.printer(2, 0));
        Checks.refused("printer -1", Checks.BAD_INDEX, f, () -> f.printer(-1, 0));
        Checks.refused("what -1", Checks.BAD_INDEX, f, () -> f.printer(0, -1));
        Checks.refused("what 7", Checks.BAD_INDEX, f, () -> f.printer(0, 7));
    }

    private static void count() {
        TypeFoundry f = PrintersTest.caseOf("aabb", 0, 0, 0);
        f.come(9);
        f.cast(3, 6);
        f.rent(1, 3, 2);
        f.set(0, Checks.word("ab"));
        f.print(0, 100);
        f.distribute(0);
        f.giveBack(0, 0, 1);
        f.set(0, Checks.word("b"));
        f.print(0, 1000);
        f.pass(4);
        f.pay(1);
        f.melt(2);
        int[] want = {4, 481, 4, 4, 2, 10, 1, 1};
        for (int what = 0; what < want.length; what++) {
            int asked = what;
            Checks.due("count(" + what + ")", want[what], () -> f.count(asked));
        }
        Checks.refused("what -1", Checks.BAD_INDEX, f, () -> f.count(-1));
        Checks.refused("what 8", Checks.BAD_INDEX, f, () -> f.count(8));
    }

    private static void takes() {
        TypeFoundry f = PrintersTest.caseOf("ffiabcdefg", 1, 1, 1);
        Checks.due("ffi", 2, () -> f.takes(0, Checks.word("ffi")));
        Checks.due("fifl", 2, () -> f.takes(0, Checks.word("fifl")));
        Checks.due("fifi", 3, () -> f.takes(0, Checks.word("fifi")));
        Checks.due("flfl lacks l", -1, () -> f.takes(0, Checks.word("flfl")));
        Checks.due("ffffff: one ff, three f, then none", -1, () -> f.takes(0, Checks.word("ffffff")));
        Checks.due("fffff: one ff, three f", 4, () -> f.takes(0, Checks.word("fffff")));
        Checks.due("ffff: one ff, two f", 3, () -> f.takes(0, Checks.word("ffff")));
        Checks.due("abcdeg", 6, () -> f.takes(0, Checks.word("abcdeg")));
        Checks.due("aa", -1, () -> f.takes(0, Checks.word("aa")));
        Checks.due("changes nothing", 2, () -> f.takes(0, Checks.word("ffi")));
        f.set(0, Checks.word("abc"));
        Checks.due("not from the form", -1, () -> f.takes(0, Checks.word("a")));
        TypeFoundry full = new TypeFoundry();
        full.come(0);
        full.cast(0, 66);
        full.rent(0, 0, 66);
        for (int i = 0; i < 10; i++) {
            full.set(0, Checks.word("aaaaaa"));
        }
        Checks.due("whatever is in the form", 6, () -> full.takes(0, Checks.word("aaaaaa")));
        refusesNoWords("takes", f, f::takes);
    }

    interface Asked {
        int of(int printer, int word);
    }

    private static void refusesNoWords(String what, TypeFoundry f, Asked asked) {
        int[] noWords = {0, -1, 27, 54, 730, 387420489, Integer.MAX_VALUE, Integer.MIN_VALUE};
        for (int noWord : noWords) {
            Checks.refused(what + "(0, " + noWord + ")", Checks.BAD_ARGUMENT, f, () -> asked.of(0, noWord));
            Checks.refused(what + "(1, " + noWord + ")", Checks.BAD_INDEX, f, () -> asked.of(1, noWord));
        }
        Checks.refused(what + "(-1, 1)", Checks.BAD_INDEX, f, () -> asked.of(-1, 1));
        Checks.refused(what + "(6, 1)", Checks.BAD_INDEX, f, () -> asked.of(6, 1));
    }

    private static void lacks() {
        TypeFoundry f = PrintersTest.caseOf("aab", 5, 5, 5);
        Checks.due("none lacks", -1, () -> f.lacks(0, Checks.word("aba")));
        Checks.due("one a lacks", 0, () -> f.lacks(0, Checks.word("aaba")));
        Checks.due("two b lack", 1, () -> f.lacks(0, Checks.word("aabbba")));
        Checks.due("of several the least", 3, () -> f.lacks(0, Checks.word("zed")));
        Checks.due("the greatest lack", 25, () -> f.lacks(0, Checks.word("zzed")));
        Checks.due("without ligatures", 5, () -> f.lacks(0, Checks.word("fi")));
        Checks.due("without ligatures, two f", 5, () -> f.lacks(0, Checks.word("iffl")));
        f.set(0, Checks.word("ab"));
        Checks.due("the case alone", 1, () -> f.lacks(0, Checks.word("ab")));
        refusesNoWords("lacks", f, f::lacks);
    }

    private static void bears() {
        TypeFoundry f = PrintersTest.caseOf("ab", 0, 0, 0);
        Checks.due("empty form", 0, () -> f.bears(0));
        f.set(0, Checks.word("a"));
        Checks.due("new sorts", 499, () -> f.bears(0));
        f.print(0, 450);
        Checks.due("wear 9", 49, () -> f.bears(0));
        f.set(0, Checks.word("b"));
        Checks.due("the greatest wear", 49, () -> f.bears(0));
        f.print(0, 50);
        Checks.due("wear 1 is left", 449, () -> f.bears(0));
        Checks.due("so many break none", 0, () -> f.print(0, 449));
        f.distribute(0);
        Checks.due("the case does not count", 0, () -> f.bears(0));
        Checks.refused("printer 1", Checks.BAD_INDEX, f, () -> f.bears(1));
        Checks.refused("printer -1", Checks.BAD_INDEX, f, () -> f.bears(-1));
    }

    private static void saves() {
        TypeFoundry f = new TypeFoundry();
        String[][] words = {
            {"office", "a", "28"}, {"fi", "fl", "26"}, {"fl", "ff", "27"}, {"ff", "fi", "26"}, {"a", "b", "-1"},
            {"fi", "b", "26"}, {"b", "fl", "27"}, {"flfl", "fi", "27"}, {"ffi", "ffl", "28"}, {"fffi", "b", "26"},
            {"fffi", "ff", "28"}, {"ffffff", "fifi", "28"}, {"fififi", "ffffff", "26"}, {"f", "i", "-1"},
            {"of", "if", "-1"}, {"lf", "if", "-1"}, {"fff", "fl", "27"}, {"flifif", "fifl", "26"}};
        for (String[] row : words) {
            Checks.due("saves " + row[0] + " " + row[1], Integer.valueOf(row[2]),
                    () -> f.saves(Checks.word(row[0]), Checks.word(row[1])));
        }
        int[] noWords = {0, -1, 27, 730, 387420489, Integer.MAX_VALUE, Integer.MIN_VALUE};
        for (int noWord : noWords) {
            Checks.refused("saves(" + noWord + ", 1)", Checks.BAD_ARGUMENT, f, () -> f.saves(noWord, 1));
            Checks.refused("saves(1, " + noWord + ")", Checks.BAD_ARGUMENT, f, () -> f.saves(1, noWord));
        }
        Checks.due("the greatest word", -1, () -> f.saves(387420488, 387420488));
    }

    private static void times() {
        TypeFoundry f = PrintersTest.caseOf("aaaaabb", 0, 0, 0);
        Checks.due("a", 5, () -> f.times(0, Checks.word("a")));
        Checks.due("aa", 2, () -> f.times(0, Checks.word("aa")));
        Checks.due("ab", 2, () -> f.times(0, Checks.word("ab")));
        Checks.due("c", 0, () -> f.times(0, Checks.word("c")));
        Checks.due("changes nothing", 7, () -> f.printer(0, 2));
        f.set(0, Checks.word("a"));
        Checks.due("the case alone", 4, () -> f.times(0, Checks.word("a")));
        TypeFoundry g = PrintersTest.caseOf("fffffiiiii", 2, 0, 1);
        Checks.due("fi: two by fi, five by letters", 7, () -> g.times(0, Checks.word("fi")));
        Checks.due("ffi: ff i; then f fi; f fi; then f f i", 4, () -> g.times(0, Checks.word("ffi")));
        TypeFoundry h = PrintersTest.caseOf("ffffff", 0, 0, 3);
        Checks.due("ffff: ff ff; ff f f; f f f f", 3, () -> h.times(0, Checks.word("ffff")));
        TypeFoundry many = new TypeFoundry();
        many.come(0);
        many.cast(25, 200);
        many.rent(0, 25, 200);
        Checks.due("z", 200, () -> many.times(0, Checks.word("z")));
        Checks.due("zzzzzz", 33, () -> many.times(0, 387420488));
        refusesNoWords("times", f, f::times);
    }

    private static void mean() {
        TypeFoundry f = PrintersTest.caseOf("aab", 0, 0, 0);
        Checks.due("no sorts in stock", 0.0, f::mean);
        f.set(0, Checks.word("a"));
        f.print(0, 100);
        f.distribute(0);
        Checks.due("a case does not count", 0.0, f::mean);
        f.giveBack(0, 0, 1);
        Checks.due("wear 2", 2.0, f::mean);
        f.giveBack(0, 0, 1);
        Checks.due("wear 2 and 0", 1.0, f::mean);
        f.giveBack(0, 1, 1);
        Checks.due("2 by 3", 2.0 / 3, f::mean);
    }

    private static void digest() {
        TypeFoundry f = new TypeFoundry();
        Checks.due("new", digestOf(f), f::digest);
        f.cast(0, 20);
        f.cast(28, 4);
        f.come(30);
        f.come(7);
        f.rent(0, 0, 12);
        f.rent(1, 28, 2);
        f.set(0, Checks.word("aaa"));
        f.print(0, 140);
        f.set(1, Checks.word("ff"));
        f.pass(3);
        f.pay(1);
        Checks.due("in use", digestOf(f), f::digest);
        Checks.due("again", digestOf(f), f::digest);
    }

    private static long digestOf(TypeFoundry f) {
        long d = 751;
        for (int what = 0; what < 8; what++) {
            d = d * 31 + f.count(what);
        }
        for (int printer = -1; printer < f.count(4); printer++) {
            for (int sign = 0; sign < 29; sign++) {
                for (int wear = 0; wear < 10; wear++) {
                    d = d * 31 + f.sorts(printer, sign, wear);
                }
            }
        }
        for (int printer = 0; printer < f.count(4); printer++) {
            for (int what = 0; what < 7; what++) {
                d = d * 31 + f.printer(printer, what);
            }
        }
        return d;
    }
}

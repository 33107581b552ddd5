/** Promises 5 to 12: come, rent, giveBack, pay, set, print, distribute, pass. */
public final class PrintersTest {
    public static void main(String[] args) {
        come();
        rentTakesTheLeastWorn();
        rentRefuses();
        giveBackTakesTheMostWorn();
        giveBackRefuses();
        pay();
        setTakesLigaturesFirst();
        setTakesTheMostWorn();
        theGreatestWearIsFoundToo();
        setRefuses();
        printWears();
        printRefuses();
        distribute();
        pass();
        Checks.end("PrintersTest");
    }

    private static void come() {
        TypeFoundry f = new TypeFoundry();
        Checks.refused("coins -1", Checks.BAD_ARGUMENT, f, () -> f.come(-1));
        Checks.refused("coins 5001", Checks.BAD_ARGUMENT, f, () -> f.come(5001));
        int[] coins = {0, 5000, 7, 1, 2, 3};
        for (int i = 0; i < coins.length; i++) {
            int number = i;
            Checks.due("come " + i, i, () -> f.come(coins[number]));
            Checks.due("coins of " + i, coins[i], () -> f.printer(number, 0));
        }
        for (int what = 1; what < 7; what++) {
            int asked = what;
            Checks.due("new printer, " + what, 0, () -> f.printer(2, asked));
        }
        Checks.due("6 printers", 6, () -> f.count(4));
        Checks.due("coins of the foundry", 0, () -> f.count(2));
        Checks.refused("a seventh", Checks.BAD_STATE, f, () -> f.come(0));
        Checks.refused("argument before state", Checks.BAD_ARGUMENT, f, () -> f.come(5001));
    }

    /** A stock of letter a: 3 with wear 0, 2 with wear 3, 4 with wear 7; a printer with nothing. */
    private static TypeFoundry stockOfThreeWears() {
        TypeFoundry f = new TypeFoundry();
        f.come(100);
        f.cast(0, 2);
        f.rent(0, 0, 2);
        f.set(0, Checks.word("aa"));
        f.print(0, 150);
        f.distribute(0);
        f.cast(0, 4);
        f.rent(0, 0, 4);
        f.giveBack(0, 0, 2);
        f.set(0, Checks.word("aaaa"));
        f.print(0, 350);
        f.distribute(0);
        f.giveBack(0, 0, 4);
        f.cast(0, 3);
        return f;
    }

    private static void rentTakesTheLeastWorn() {
        TypeFoundry f = stockOfThreeWears();
        Checks.due("wear 0 in stock", 3, () -> f.sorts(-1, 0, 0));
        Checks.due("wear 3 in stock", 2, () -> f.sorts(-1, 0, 3));
        Checks.due("wear 7 in stock", 4, () -> f.sorts(-1, 0, 7));
        Checks.due("rent 1", 0, () -> f.rent(0, 0, 1));
        Checks.due("rent 3 more", 3, () -> f.rent(0, 0, 3));
        Checks.due("rent 3 more", 17, () -> f.rent(0, 0, 3));
        Checks.due("left in stock", 2, () -> f.sorts(-1, 0, 7));
        Checks.due("in the case", 2, () -> f.sorts(0, 0, 3));
        Checks.due("in the case, in all", 7, () -> f.printer(0, 2));
        Checks.due("no coins for it yet", 100, () -> f.printer(0, 0));
        Checks.refused("3 are too many", Checks.BAD_STATE, f, () -> f.rent(0, 0, 3));
        Checks.due("the last 2", 14, () -> f.rent(0, 0, 2));
        Checks.due("stock is empty", 0, () -> f.count(3));
    }

    private static void rentRefuses() {
        TypeFoundry f = new TypeFoundry();
        f.cast(0, 200);
        Checks.refused("no printer", Checks.BAD_INDEX, f, () -> f.rent(0, 0, 1));
        f.come(0);
        Checks.refused("printer -1", Checks.BAD_INDEX, f, () -> f.rent(-1, 0, 1));
        Checks.refused("printer 1", Checks.BAD_INDEX, f, () -> f.rent(1, 0, 1));
        Checks.refused("printer 6", Checks.BAD_INDEX, f, () -> f.rent(6, 0, 0));
        Checks.refused("sign -1", Checks.BAD_INDEX, f, () -> f.rent(0, -1, 1));
        Checks.refused("sign 29", Checks.BAD_INDEX, f, () -> f.rent(0, 29, 1));
        Checks.refused("sign before many", Checks.BAD_INDEX, f, () -> f.rent(0, 29, 0));
        Checks.refused("many 0", Checks.BAD_ARGUMENT, f, () -> f.rent(0, 0, 0));
        Checks.refused("many before state", Checks.BAD_ARGUMENT, f, () -> f.rent(0, 1, 201));
        Checks.refused("none of b", Checks.BAD_STATE, f, () -> f.rent(0, 1, 1));
        Checks.due("200 of a", 0, () -> f.rent(0, 0, 200));
        Checks.refused("none of a", Checks.BAD_STATE, f, () -> f.rent(0, 0, 1));
    }

    private static void giveBackTakesTheMostWorn() {
        TypeFoundry f = stockOfThreeWears();
        f.rent(0, 0, 9);
        Checks.due("give back 3", 21, () -> f.giveBack(0, 0, 3));
        Checks.due("give back 2", 10, () -> f.giveBack(0, 0, 2));
        Checks.due("wear 7 in stock", 4, () -> f.sorts(-1, 0, 7));
        Checks.due("wear 3 in stock", 1, () -> f.sorts(-1, 0, 3));
        Checks.due("left in the case", 4, () -> f.printer(0, 2));
        Checks.refused("5 are too many", Checks.BAD_STATE, f, () -> f.giveBack(0, 0, 5));
        Checks.due("the last 4", 3, () -> f.giveBack(0, 0, 4));
        f.rent(0, 0, 2);
        f.set(0, Checks.word("a"));
        Checks.refused("not from the form", Checks.BAD_STATE, f, () -> f.giveBack(0, 0, 2));
        Checks.due("just what is in the case", 0, () -> f.giveBack(0, 0, 1));
    }

    private static void giveBackRefuses() {
        TypeFoundry f = new TypeFoundry();
        f.cast(0, 5);
        f.come(0);
        f.come(0);
        f.rent(1, 0, 5);
        Checks.refused("printer 2", Checks.BAD_INDEX, f, () -> f.giveBack(2, 0, 1));
        Checks.refused("printer -1", Checks.BAD_INDEX, f, () -> f.giveBack(-1, 0, 0));
        Checks.refused("sign -1", Checks.BAD_INDEX, f, () -> f.giveBack(1, -1, 1));
        Checks.refused("sign 29", Checks.BAD_INDEX, f, () -> f.giveBack(1, 29, 201));
        Checks.refused("many 0", Checks.BAD_ARGUMENT, f, () -> f.giveBack(1, 0, 0));
        Checks.refused("many before state", Checks.BAD_ARGUMENT, f, () -> f.giveBack(0, 0, 201));
        Checks.refused("not of another's case", Checks.BAD_STATE, f, () -> f.giveBack(0, 0, 1));
        Checks.refused("6 of 5", Checks.BAD_STATE, f, () -> f.giveBack(1, 0, 6));
        Checks.due("5 of 5", 0, () -> f.giveBack(1, 0, 5));
    }

    private static void pay() {
        TypeFoundry f = new TypeFoundry();
        f.cast(0, 20);
        f.come(10);
        f.come(1);
        f.rent(0, 0, 10);
        f.rent(1, 0, 5);
        Checks.due("nothing owed", 0, () -> f.pay(0));
        f.pass(4);
        Checks.due("all that is owed", 4, () -> f.pay(0));
        Checks.due("coins left", 6, () -> f.printer(0, 0));
        Checks.due("owed then", 0, () -> f.printer(0, 1));
        Checks.due("as far as coins go", 1, () -> f.pay(1));
        Checks.due("no coins left", 0, () -> f.printer(1, 0));
        Checks.due("still owed", 3, () -> f.printer(1, 1));
        Checks.due("nothing to pay with", 0, () -> f.pay(1));
        Checks.due("the foundry has them", 5, () -> f.count(2));
        Checks.refused("printer 2", Checks.BAD_INDEX, f, () -> f.pay(2));
        Checks.refused("printer -1", Checks.BAD_INDEX, f, () -> f.pay(-1));
        Checks.refused("printer 6", Checks.BAD_INDEX, f, () -> f.pay(6));
    }

    /** A printer whose case holds these letters, and so many fi, fl and ff, all new. */
    static TypeFoundry caseOf(String letters, int fi, int fl, int ff) {
        TypeFoundry f = new TypeFoundry();
        f.come(0);
        int[] many = new int[29];
        for (int i = 0; i < letters.length(); i++) {
            many[Checks.sign(letters.charAt(i))]++;
        }
        many[26] = fi;
        many[27] = fl;
        many[28] = ff;
        for (int sign = 0; sign < many.length; sign++) {
            if (many[sign] > 0) {
                f.cast(sign, many[sign]);
                f.rent(0, sign, many[sign]);
            }
        }
        return f;
    }

    private static void setTakesLigaturesFirst() {
        TypeFoundry f = caseOf("ffiioeec", 1, 1, 1);
        Checks.due("office", 5, () -> f.set(0, Checks.word("office")));
        Checks.due("ff is taken", 0, () -> f.sorts(0, 28, 0));
        Checks.due("fi is left", 1, () -> f.sorts(0, 26, 0));
        Checks.due("f is left", 2, () -> f.sorts(0, 5, 0));
        Checks.due("i is taken", 1, () -> f.sorts(0, 8, 0));
        Checks.due("form", 5, () -> f.printer(0, 3));
        Checks.due("words", 1, () -> f.printer(0, 6));
        Checks.due("ffi by f and fi", 2, () -> f.set(0, Checks.word("ffi")));
        Checks.due("fi is taken", 0, () -> f.sorts(0, 26, 0));
        Checks.due("fe by letters", 2, () -> f.set(0, Checks.word("fe")));
        Checks.refused("no f left", Checks.BAD_STATE, f, () -> f.set(0, Checks.word("f")));
        Checks.due("words", 3, () -> f.printer(0, 6));
        TypeFoundry g = caseOf("fi", 1, 0, 1);
        Checks.due("ff, then i, though f and fi would do as well", 2, () -> g.set(0, Checks.word("ffi")));
        Checks.due("fi is left", 1, () -> g.sorts(0, 26, 0));
        TypeFoundry h = caseOf("f", 1, 0, 1);
        Checks.refused("ff is taken, i lacks, and nothing else is tried", Checks.BAD_STATE, h, () -> h.set(0, Checks.word("ffi")));
        TypeFoundry k = caseOf("fl", 0, 1, 0);
        Checks.due("flfl, with one fl", 3, () -> k.set(0, Checks.word("flfl")));
        TypeFoundry last = caseOf("ff", 1, 1, 1);
        Checks.due("f at the end is a letter", 2, () -> last.set(0, Checks.word("fff")));
        Checks.due("the ligature and a letter", 1, () -> last.sorts(0, 5, 0));
        TypeFoundry turned = caseOf("fifl", 1, 1, 1);
        Checks.due("if and lf are no ligatures", 3, () -> turned.set(0, Checks.word("lif")));
        Checks.due("fi is left", 1, () -> turned.sorts(0, 26, 0));
        Checks.due("fl is left", 1, () -> turned.sorts(0, 27, 0));
    }

    private static void setTakesTheMostWorn() {
        TypeFoundry f = stockOfThreeWears();
        f.rent(0, 0, 9);
        Checks.due("aaaaa", 5, () -> f.set(0, Checks.word("aaaaa")));
        Checks.due("wear in the form", 31, () -> f.printer(0, 4));
        Checks.due("wear 7 in the case", 0, () -> f.sorts(0, 0, 7));
        Checks.due("wear 3 in the case", 1, () -> f.sorts(0, 0, 3));
        Checks.due("wear 0 in the case", 3, () -> f.sorts(0, 0, 0));
    }

    private static void theGreatestWearIsFoundToo() {
        TypeFoundry f = caseOf("aa", 0, 0, 0);
        f.set(0, Checks.word("a"));
        f.print(0, 450);
        f.distribute(0);
        Checks.due("set takes wear 9", 1, () -> f.set(0, Checks.word("a")));
        Checks.due("wear 9 in the form", 9, () -> f.printer(0, 4));
        Checks.due("wear 9 is put back", 1, () -> f.distribute(0));
        Checks.due("give back wear 9", 9, () -> f.giveBack(0, 0, 1));
        Checks.due("rent wear 9", 9, () -> f.rent(0, 0, 1));
        f.giveBack(0, 0, 1);
        Checks.due("melt wear 9", 1, () -> f.melt(9));
    }

    private static void setRefuses() {
        TypeFoundry f = caseOf("ab", 0, 0, 0);
        int[] noWords = {0, -1, 27, 54, 27 * 27 + 1, 387420489, Integer.MAX_VALUE, Integer.MIN_VALUE, 14348907};
        for (int noWord : noWords) {
            Checks.refused("set(0, " + noWord + ")", Checks.BAD_ARGUMENT, f, () -> f.set(0, noWord));
            Checks.refused("set(1, " + noWord + ")", Checks.BAD_INDEX, f, () -> f.set(1, noWord));
        }
        Checks.refused("printer -1", Checks.BAD_INDEX, f, () -> f.set(-1, 1));
        Checks.refused("printer 6", Checks.BAD_INDEX, f, () -> f.set(6, 1));
        Checks.refused("c lacks", Checks.BAD_STATE, f, () -> f.set(0, Checks.word("abc")));
        Checks.due("ab", 2, () -> f.set(0, Checks.word("ab")));
        Checks.refused("the form is no store", Checks.BAD_STATE, f, () -> f.set(0, Checks.word("a")));

        TypeFoundry full = new TypeFoundry();
        full.come(0);
        full.cast(0, 66);
        full.rent(0, 0, 66);
        for (int i = 0; i < 9; i++) {
            full.set(0, Checks.word("aaaaaa"));
        }
        full.set(0, Checks.word("aaaaa"));
        Checks.refused("61 in the form", Checks.BAD_STATE, full, () -> full.set(0, Checks.word("aa")));
        Checks.due("60 in the form", 1, () -> full.set(0, Checks.word("a")));
        Checks.refused("61 in the form", Checks.BAD_STATE, full, () -> full.set(0, Checks.word("a")));
        Checks.due("words", 11, () -> full.printer(0, 6));
        Checks.refused("no word, though full", Checks.BAD_ARGUMENT, full, () -> full.set(0, 0));
    }

    private static void printWears() {
        TypeFoundry f = caseOf("aaab", 0, 0, 0);
        f.set(0, Checks.word("aa"));
        Checks.due("49 copies", 0, () -> f.print(0, 49));
        Checks.due("no wear", 0, () -> f.printer(0, 4));
        Checks.due("49 copies again, each print for itself", 0, () -> f.print(0, 49));
        Checks.due("no wear", 0, () -> f.printer(0, 4));
        Checks.due("50 copies", 0, () -> f.print(0, 50));
        Checks.due("wear", 2, () -> f.printer(0, 4));
        Checks.due("99 copies", 0, () -> f.print(0, 99));
        Checks.due("wear", 4, () -> f.printer(0, 4));
        f.set(0, Checks.word("ab"));
        Checks.due("mixed wear", 0, () -> f.print(0, 350));
        Checks.due("2 of 9, 2 of 7", 32, () -> f.printer(0, 4));
        Checks.due("the worn ones break", 2, () -> f.print(0, 50));
        Checks.due("in the form", 2, () -> f.printer(0, 3));
        Checks.due("wear left", 16, () -> f.printer(0, 4));
        Checks.due("copies in all", 49 + 49 + 50 + 99 + 350 + 50, () -> f.printer(0, 5));
        Checks.due("broken in all", 2, () -> f.count(6));
        Checks.due("1000 copies break all", 2, () -> f.print(0, 1000));
        Checks.due("form is empty", 0, () -> f.printer(0, 3));
        Checks.due("words stay", 2, () -> f.printer(0, 6));
        Checks.refused("nothing to print from", Checks.BAD_STATE, f, () -> f.print(0, 1));
        Checks.due("broken in all", 4, () -> f.count(6));
        TypeFoundry g = caseOf("abc", 0, 0, 0);
        g.set(0, Checks.word("a"));
        Checks.due("450 copies: wear 9", 0, () -> g.print(0, 450));
        g.distribute(0);
        Checks.due("wear 9", 1, () -> g.sorts(0, 0, 9));
        g.set(0, Checks.word("b"));
        Checks.due("500 copies: wear 10", 1, () -> g.print(0, 500));
        Checks.due("a case does not wear", 1, () -> g.sorts(0, 2, 0));
    }

    private static void printRefuses() {
        TypeFoundry f = caseOf("a", 0, 0, 0);
        f.come(0);
        Checks.refused("empty form", Checks.BAD_STATE, f, () -> f.print(0, 1));
        Checks.refused("copies before state", Checks.BAD_ARGUMENT, f, () -> f.print(0, 0));
        f.set(0, Checks.word("a"));
        Checks.refused("copies 0", Checks.BAD_ARGUMENT, f, () -> f.print(0, 0));
        Checks.refused("copies -1", Checks.BAD_ARGUMENT, f, () -> f.print(0, -50));
        Checks.refused("copies 1001", Checks.BAD_ARGUMENT, f, () -> f.print(0, 1001));
        Checks.refused("printer 2", Checks.BAD_INDEX, f, () -> f.print(2, 0));
        Checks.refused("printer -1", Checks.BAD_INDEX, f, () -> f.print(-1, 1));
        Checks.refused("another's form", Checks.BAD_STATE, f, () -> f.print(1, 1));
    }

    private static void distribute() {
        TypeFoundry f = caseOf("aab", 1, 0, 0);
        Checks.due("empty form", 0, () -> f.distribute(0));
        f.set(0, Checks.word("afi"));
        f.print(0, 100);
        f.set(0, Checks.word("a"));
        Checks.due("distribute", 3, () -> f.distribute(0));
        Checks.due("worn a", 1, () -> f.sorts(0, 0, 2));
        Checks.due("new a", 1, () -> f.sorts(0, 0, 0));
        Checks.due("worn fi", 1, () -> f.sorts(0, 26, 2));
        Checks.due("case", 4, () -> f.printer(0, 2));
        Checks.due("form", 0, () -> f.printer(0, 3));
        Checks.due("words", 0, () -> f.printer(0, 6));
        Checks.due("copies stay", 100, () -> f.printer(0, 5));
        f.set(0, Checks.word("b"));
        f.print(0, 1000);
        Checks.due("a word, though it broke", 1, () -> f.printer(0, 6));
        Checks.due("nothing to put back", 0, () -> f.distribute(0));
        Checks.due("no word then", 0, () -> f.printer(0, 6));
        Checks.refused("printer 1", Checks.BAD_INDEX, f, () -> f.distribute(1));
        Checks.refused("printer -1", Checks.BAD_INDEX, f, () -> f.distribute(-1));
    }

    private static void pass() {
        TypeFoundry f = new TypeFoundry();
        Checks.due("nobody owes", 0, () -> f.pass(1));
        f.cast(0, 32);
        f.come(0);
        f.come(0);
        f.come(50);
        f.rent(0, 0, 10);
        f.rent(1, 0, 11);
        Checks.due("1 and 2 a day", 3, () -> f.pass(1));
        Checks.due("1 and 2 a day, 100 days", 303, () -> f.pass(100));
        Checks.due("owed by 0", 101, () -> f.printer(0, 1));
        Checks.due("owed by 1", 202, () -> f.printer(1, 1));
        Checks.due("owed by 2", 0, () -> f.printer(2, 1));
        Checks.due("day", 102, () -> f.count(0));
        f.set(0, Checks.word("aaa"));
        f.rent(0, 0, 1);
        Checks.due("case and form together", 303 + 20, () -> f.pass(5));
        f.rent(2, 0, 1);
        Checks.due("one sort costs 1", 323 + 5, () -> f.pass(1));
        f.pay(2);
        Checks.due("what was paid is not owed", 327 + 5, () -> f.pass(1));
        Checks.refused("days 0", Checks.BAD_ARGUMENT, f, () -> f.pass(0));
        Checks.refused("days -1", Checks.BAD_ARGUMENT, f, () -> f.pass(-1));
        Checks.refused("days 101", Checks.BAD_ARGUMENT, f, () -> f.pass(101));
    }
}

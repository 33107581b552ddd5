/** Promises 5 to 8 and 12: come, rent, giveBack, pay, pass. */
public final class PrintersTest {
    private static final String FIRST_NAMED = "If several exceptions apply, the one that is named first is thrown.";
    private static final int[] NOT_SO_MANY = {10, 11, 200};

    public static void main(String[] args) {
        comeReturnsTheNumber();
        comeCoins();
        comeSeventh();
        comeFirstNamed();
        rentTheLeastWorn();
        rentReturnsTheirWear();
        rentPrinter();
        rentSign();
        rentMany();
        rentNotSoMany();
        rentFirstNamed();
        giveBackTheMostWorn();
        giveBackReturnsTheirWear();
        giveBackPrinter();
        giveBackSign();
        giveBackMany();
        giveBackNotSoMany();
        giveBackFirstNamed();
        payAsFarAsThereAreCoins();
        payReturnsWhatIsPaid();
        payPrinter();
        passRoundsUp();
        passCaseAndForm();
        passOnEachDay();
        passEachPrinter();
        passReturnsWhatAllOwe();
        passDays();
        Checks.end("PrintersTest", 5, 6, 7, 8, 12);
    }

    private static void comeReturnsTheNumber() {
        Checks.holds(5, "Returns the number.");
        TypeFoundry f = new TypeFoundry();
        for (int i = 0; i < 6; i++) {
            int number = i;
            Checks.due("come", number, () -> f.come(100 - number));
            Checks.due("there are", number + 1, () -> f.count(4));
            Checks.due("its coins", 100 - number, () -> f.printer(number, 0));
        }
        Checks.due("the foundry's coins", 0, () -> f.count(2));
    }

    private static void comeCoins() {
        Checks.holds(5, "coins is not 0 to 5000");
        for (int coins : new int[] {-1, 5001, Foundries.LEAST, Foundries.MOST}) {
            Checks.refused("come(" + coins + ")", Checks.BAD_ARGUMENT, Foundries::busy, f -> f.come(coins));
        }
        TypeFoundry f = new TypeFoundry();
        Checks.due("the least", 0, () -> f.come(0));
        Checks.due("the most", 1, () -> f.come(5000));
        Checks.due("coins", 5000, () -> f.printer(1, 0));
    }

    private static TypeFoundry sixPrinters() {
        TypeFoundry f = Foundries.busy();
        for (int i = 2; i < 6; i++) {
            f.come(i);
        }
        return f;
    }

    private static void comeSeventh() {
        Checks.holds(5, "there are 6");
        Checks.refused("a seventh", Checks.BAD_STATE, PrintersTest::sixPrinters, f -> f.come(0));
        Checks.refused("a seventh, rich", Checks.BAD_STATE, PrintersTest::sixPrinters, f -> f.come(5000));
        Checks.due("the sixth is fine", 5, () -> sixPrinters().printer(5, 0));
    }

    private static void comeFirstNamed() {
        Checks.holds(5, FIRST_NAMED);
        for (int coins : new int[] {-1, 5001}) {
            Checks.refused("coins and a seventh", Checks.BAD_ARGUMENT, PrintersTest::sixPrinters, f -> f.come(coins));
        }
    }

    private static void rentTheLeastWorn() {
        Checks.holds(6, "those of the least wear in the stock go into the case");
        for (int sign : new int[] {0, 28}) {
            for (int many = 1; many <= 9; many++) {
                int m = many;
                TypeFoundry f = Foundries.stockOfThreeWears(sign);
                f.rent(1, sign, m);
                int[] wears = {0, 3, 7};
                int[] moved = {Math.min(m, 3), Math.max(0, Math.min(m - 3, 2)), Math.max(0, m - 5)};
                int[] first = {3, 2, 4};
                for (int i = 0; i < wears.length; i++) {
                    int at = i;
                    Checks.due("rent " + m + ", in the case", moved[at], () -> f.sorts(1, sign, wears[at]));
                    Checks.due("rent " + m + ", in the stock", first[at] - moved[at], () -> f.sorts(-1, sign, wears[at]));
                }
                Checks.due("no other case", 0, () -> f.printer(0, 2));
            }
        }
    }

    private static void rentReturnsTheirWear() {
        Checks.holds(6, "Returns their wear, added.");
        int[] due = {0, 0, 0, 0, 3, 6, 13, 20, 27, 34};
        for (int many = 1; many <= 9; many++) {
            int m = many;
            Checks.due("rent " + m, due[m], () -> Foundries.stockOfThreeWears(3).rent(1, 3, m));
        }
        TypeFoundry worst = Foundries.caseOf("");
        Foundries.stock(worst, 0, 0, 1, 9);
        Checks.due("wear 9", 9, () -> worst.rent(0, 0, 1));
    }

    private static void rentPrinter() {
        Checks.holds(6, "there is no such printer");
        for (int printer : Foundries.NO_PRINTERS) {
            Checks.refused("rent(" + printer + ", 0, 1)", Checks.BAD_INDEX, Foundries::busy, f -> f.rent(printer, 0, 1));
        }
        Checks.refused("no printer came", Checks.BAD_INDEX, () -> Foundries.withStock(0, 5), f -> f.rent(0, 0, 1));
        TypeFoundry six = sixPrinters();
        Checks.due("the last of 6", 4, () -> six.rent(5, 0, 1));
        Checks.due("its case", 1, () -> six.printer(5, 2));
    }

    private static void rentSign() {
        Checks.holds(6, "sign is not 0 to 28");
        for (int sign : Foundries.NO_SIGNS) {
            Checks.refused("rent(0, " + sign + ", 1)", Checks.BAD_INDEX, Foundries::busy, f -> f.rent(0, sign, 1));
        }
        Checks.due("the least", 4, () -> Foundries.busy().rent(0, 0, 1));
        Checks.due("the greatest", 9, () -> Foundries.busy().rent(0, 28, 1));
    }

    private static void rentMany() {
        Checks.holds(6, "many is not 1 to 200");
        for (int many : Foundries.NO_MANY) {
            Checks.refused("rent(0, 0, " + many + ")", Checks.BAD_ARGUMENT, PrintersTest::stockOf300, f -> f.rent(0, 0, many));
        }
        TypeFoundry f = stockOf300();
        Checks.due("the most", 0, () -> f.rent(0, 0, 200));
        Checks.due("in the case", 200, () -> f.printer(0, 2));
        Checks.due("the least", 0, () -> f.rent(0, 0, 1));
        Checks.due("in the stock", 99, () -> f.count(3));
    }

    private static TypeFoundry stockOf300() {
        TypeFoundry f = Foundries.withStock(0, 300);
        f.come(0);
        f.come(0);
        return f;
    }

    private static void rentNotSoMany() {
        Checks.holds(6, "there are not so many in the stock");
        for (int many : NOT_SO_MANY) {
            Checks.refused(many + " of 9", Checks.BAD_STATE, () -> Foundries.stockOfThreeWears(0), f -> f.rent(0, 0, many));
        }
        TypeFoundry all = Foundries.stockOfThreeWears(0);
        Checks.due("9 of 9", 34, () -> all.rent(0, 0, 9));
        Checks.due("none is left", Checks.BAD_STATE, () -> all.rent(0, 0, 1));
        Checks.due("nor for another", Checks.BAD_STATE, () -> all.rent(1, 0, 1));
        Checks.refused("those of another sign", Checks.BAD_STATE, () -> Foundries.stockOfThreeWears(0), f -> f.rent(0, 1, 1));
        Checks.refused("none at all", Checks.BAD_STATE, () -> Foundries.caseOf("aa"), f -> f.rent(1, 0, 1));
    }

    private static void rentFirstNamed() {
        Checks.holds(6, FIRST_NAMED);
        for (int many : Foundries.NO_MANY) {
            for (int printer : Foundries.NO_PRINTERS) {
                Checks.refused("printer and many", Checks.BAD_INDEX, Foundries::busy, f -> f.rent(printer, 0, many));
            }
            for (int sign : Foundries.NO_SIGNS) {
                Checks.refused("sign and many", Checks.BAD_INDEX, Foundries::busy, f -> f.rent(0, sign, many));
            }
            Checks.refused("many and not so many", Checks.BAD_ARGUMENT, Foundries::busy, f -> f.rent(0, 7, many));
        }
        Checks.refused("printer and not so many", Checks.BAD_INDEX, Foundries::busy, f -> f.rent(2, 7, 200));
        Checks.refused("sign and not so many", Checks.BAD_INDEX, Foundries::busy, f -> f.rent(0, 29, 200));
    }

    private static void giveBackTheMostWorn() {
        Checks.holds(7, "A printer gives sorts back, those of the greatest wear in the case.");
        for (int sign : new int[] {0, 28}) {
            for (int many = 1; many <= 9; many++) {
                int m = many;
                TypeFoundry f = Foundries.caseOfThreeWears(sign);
                f.giveBack(0, sign, m);
                int[] wears = {7, 3, 0};
                int[] moved = {Math.min(m, 4), Math.max(0, Math.min(m - 4, 2)), Math.max(0, m - 6)};
                int[] first = {4, 2, 3};
                for (int i = 0; i < wears.length; i++) {
                    int at = i;
                    Checks.due("give back " + m + ", in the stock", moved[at], () -> f.sorts(-1, sign, wears[at]));
                    Checks.due("give back " + m + ", in the case", first[at] - moved[at], () -> f.sorts(0, sign, wears[at]));
                }
            }
        }
    }

    private static void giveBackReturnsTheirWear() {
        Checks.holds(7, "Returns their wear, added.");
        int[] due = {0, 7, 14, 21, 28, 31, 34, 34, 34, 34};
        for (int many = 1; many <= 9; many++) {
            int m = many;
            Checks.due("give back " + m, due[m], () -> Foundries.caseOfThreeWears(3).giveBack(0, 3, m));
        }
        TypeFoundry worst = Foundries.caseOf("");
        Foundries.put(worst, 0, 0, 1, 9);
        Checks.due("wear 9", 9, () -> worst.giveBack(0, 0, 1));
    }

    private static void giveBackPrinter() {
        Checks.holds(7, "there is no such printer");
        for (int printer : Foundries.NO_PRINTERS) {
            Checks.refused("giveBack(" + printer + ", 5, 1)", Checks.BAD_INDEX, Foundries::busy, f -> f.giveBack(printer, 5, 1));
        }
        Checks.refused("no printer came", Checks.BAD_INDEX, TypeFoundry::new, f -> f.giveBack(0, 0, 1));
        TypeFoundry six = sixPrinters();
        six.rent(5, 0, 1);
        Checks.due("the last of 6", 4, () -> six.giveBack(5, 0, 1));
    }

    private static void giveBackSign() {
        Checks.holds(7, "sign is not 0 to 28");
        for (int sign : Foundries.NO_SIGNS) {
            Checks.refused("giveBack(0, " + sign + ", 1)", Checks.BAD_INDEX, Foundries::busy, f -> f.giveBack(0, sign, 1));
        }
        Checks.due("the least", 7, () -> Foundries.caseOfThreeWears(0).giveBack(0, 0, 1));
        Checks.due("the greatest", 7, () -> Foundries.caseOfThreeWears(28).giveBack(0, 28, 1));
    }

    private static void giveBackMany() {
        Checks.holds(7, "many is not 1 to 200");
        for (int many : Foundries.NO_MANY) {
            Checks.refused("giveBack(0, 0, " + many + ")", Checks.BAD_ARGUMENT, PrintersTest::caseOf300, f -> f.giveBack(0, 0, many));
        }
        TypeFoundry f = caseOf300();
        Checks.due("the most", 0, () -> f.giveBack(0, 0, 200));
        Checks.due("in the case", 100, () -> f.printer(0, 2));
        Checks.due("the least", 0, () -> f.giveBack(0, 0, 1));
        Checks.due("in the stock", 201, () -> f.count(3));
    }

    private static TypeFoundry caseOf300() {
        TypeFoundry f = stockOf300();
        f.rent(0, 0, 150);
        f.rent(0, 0, 150);
        return f;
    }

    private static void giveBackNotSoMany() {
        Checks.holds(7, "there are not so many in the case");
        for (int many : NOT_SO_MANY) {
            Checks.refused(many + " of 9", Checks.BAD_STATE, () -> Foundries.caseOfThreeWears(0), f -> f.giveBack(0, 0, many));
        }
        TypeFoundry all = Foundries.caseOfThreeWears(0);
        Checks.due("9 of 9", 34, () -> all.giveBack(0, 0, 9));
        Checks.due("none is left", Checks.BAD_STATE, () -> all.giveBack(0, 0, 1));
        Checks.refused("those of another sign", Checks.BAD_STATE, () -> Foundries.caseOf("aa"), f -> f.giveBack(0, 1, 1));
        Checks.refused("those of another printer", Checks.BAD_STATE, () -> Foundries.caseOf("aa"), f -> f.giveBack(1, 0, 1));
        Checks.refused("those of the stock", Checks.BAD_STATE, () -> Foundries.stockOfThreeWears(0), f -> f.giveBack(0, 0, 1));
        Checks.refused("those of the form", Checks.BAD_STATE, () -> Foundries.formOf(60), f -> f.giveBack(0, 0, 8));
        Checks.due("the 7 in the case", 0, () -> Foundries.formOf(60).giveBack(0, 0, 7));
    }

    private static void giveBackFirstNamed() {
        Checks.holds(7, FIRST_NAMED);
        for (int many : Foundries.NO_MANY) {
            for (int printer : Foundries.NO_PRINTERS) {
                Checks.refused("printer and many", Checks.BAD_INDEX, Foundries::busy, f -> f.giveBack(printer, 5, many));
            }
            for (int sign : Foundries.NO_SIGNS) {
                Checks.refused("sign and many", Checks.BAD_INDEX, Foundries::busy, f -> f.giveBack(0, sign, many));
            }
            Checks.refused("many and not so many", Checks.BAD_ARGUMENT, Foundries::busy, f -> f.giveBack(0, 7, many));
        }
        Checks.refused("printer and not so many", Checks.BAD_INDEX, Foundries::busy, f -> f.giveBack(2, 7, 200));
        Checks.refused("sign and not so many", Checks.BAD_INDEX, Foundries::busy, f -> f.giveBack(0, 29, 200));
    }

    /** A printer with these coins that owes so much; another one that has and owes nothing. */
    private static TypeFoundry owing(int coins, int owed) {
        TypeFoundry f = Foundries.withStock(0, 1);
        f.come(coins);
        f.come(0);
        f.rent(0, 0, 1);
        for (int rest = owed; rest > 0; rest -= 100) {
            f.pass(Math.min(100, rest));
        }
        return f;
    }

    private static void payAsFarAsThereAreCoins() {
        Checks.holds(8, "A printer pays what is owed, as far as there are coins.");
        int[][] rows = {{0, 0}, {0, 7}, {7, 0}, {6, 7}, {7, 7}, {8, 7}, {1, 7}, {7, 1}, {5000, 300}, {299, 300}};
        for (int[] row : rows) {
            TypeFoundry f = owing(row[0], row[1]);
            int paid = Math.min(row[0], row[1]);
            f.pay(0);
            String what = row[0] + " coins, " + row[1] + " owed: ";
            Checks.due(what + "coins left", row[0] - paid, () -> f.printer(0, 0));
            Checks.due(what + "still owed", row[1] - paid, () -> f.printer(0, 1));
            Checks.due(what + "the foundry's coins", paid, () -> f.count(2));
            Checks.due(what + "nothing to pay any more", 0, () -> f.pay(0));
        }
    }

    private static void payReturnsWhatIsPaid() {
        Checks.holds(8, "Returns what is paid.");
        int[][] rows = {{0, 0, 0}, {0, 7, 0}, {7, 0, 0}, {6, 7, 6}, {7, 7, 7}, {8, 7, 7}};
        for (int[] row : rows) {
            Checks.due(row[0] + " coins, " + row[1] + " owed", row[2], () -> owing(row[0], row[1]).pay(0));
            Checks.due("another one", 0, () -> owing(row[0], row[1]).pay(1));
        }
        TypeFoundry f = owing(10, 4);
        f.pay(0);
        f.pass(5);
        Checks.due("what came on since", 5, () -> f.pay(0));
        Checks.due("the foundry's coins, both", 9, () -> f.count(2));
    }

    private static void payPrinter() {
        Checks.holds(8, "there is no such printer");
        for (int printer : Foundries.NO_PRINTERS) {
            Checks.refused("pay(" + printer + ")", Checks.BAD_INDEX, Foundries::busy, f -> f.pay(printer));
        }
        Checks.refused("no printer came", Checks.BAD_INDEX, TypeFoundry::new, f -> f.pay(0));
        Checks.due("the last of 6", 0, () -> sixPrinters().pay(5));
    }

    private static final String RENT = "on each of them each printer owes as many coins more as (the sorts in case and form together, and 9) / 10";

    private static void passRoundsUp() {
        Checks.holds(12, RENT);
        int[][] rows = {{0, 0}, {1, 1}, {2, 1}, {9, 1}, {10, 1}, {11, 2}, {19, 2}, {20, 2}, {21, 3}, {199, 20}, {200, 20}};
        for (int[] row : rows) {
            TypeFoundry f = Foundries.withStock(0, 300);
            f.come(0);
            if (row[0] > 0) {
                f.rent(0, 0, row[0]);
            }
            Checks.due(row[0] + " sorts", row[1], () -> f.pass(1));
            Checks.due("owed", row[1], () -> f.printer(0, 1));
        }
    }

    private static void passCaseAndForm() {
        Checks.holds(12, "the sorts in case and form together");
        TypeFoundry f = Foundries.caseOf("aaaaaabbbbb");
        f.set(0, Checks.word("aaaaaa"));
        Checks.due("6 in the form and 5 in the case", 2, () -> f.pass(1));
        f.giveBack(0, 1, 1);
        Checks.due("6 in the form and 4 in the case", 3, () -> f.pass(1));
        f.giveBack(0, 1, 4);
        Checks.due("6 in the form alone", 4, () -> f.pass(1));
        f.print(0, 500);
        Checks.due("nothing, all broke", 4, () -> f.pass(1));
        TypeFoundry full = Foundries.formOf(60);
        Checks.due("60 and 7", 7, () -> full.pass(1));
    }

    private static void passOnEachDay() {
        Checks.holds(12, "Lets days go by: on each of them each printer owes");
        for (int days : new int[] {1, 2, 3, 99, 100}) {
            TypeFoundry f = Foundries.caseOf("aaaaaaaaaaa");
            Checks.due("2 on each of " + days, 2 * days, () -> f.pass(days));
            Checks.due("the day", days, () -> f.count(0));
            Checks.due("the same again", 4 * days, () -> f.pass(days));
            Checks.due("the day", 2 * days, () -> f.count(0));
        }
    }

    private static void passEachPrinter() {
        Checks.holds(12, "each printer owes as many coins more");
        TypeFoundry f = Foundries.withStock(0, 60);
        int[] sorts = {1, 10, 11, 0, 21, 2};
        int[] due = {1, 1, 2, 0, 3, 1};
        for (int i = 0; i < sorts.length; i++) {
            f.come(0);
            if (sorts[i] > 0) {
                f.rent(i, 0, sorts[i]);
            }
        }
        Checks.due("each one rounded by itself", 8, () -> f.pass(1));
        for (int i = 0; i < sorts.length; i++) {
            int number = i;
            Checks.due("owed by " + number, due[number], () -> f.printer(number, 1));
        }
    }

    private static void passReturnsWhatAllOwe() {
        Checks.holds(12, "Returns what is owed by all then.");
        Checks.due("nobody is there", 0, () -> new TypeFoundry().pass(100));
        Checks.due("nobody rents", 0, () -> Foundries.caseOf("").pass(100));
        TypeFoundry f = owing(100, 4);
        f.rent(1, 0, castOne(f));
        Checks.due("what was owed before, too", 4 + 1 + 1, () -> f.pass(1));
        f.pay(0);
        Checks.due("not what was paid", 1 + 1 + 1, () -> f.pass(1));
    }

    private static int castOne(TypeFoundry f) {
        f.cast(0, 1);
        return 1;
    }

    private static void passDays() {
        Checks.holds(12, "days is not 1 to 100");
        for (int days : new int[] {0, -1, 101, Foundries.LEAST, Foundries.MOST}) {
            Checks.refused("pass(" + days + ")", Checks.BAD_ARGUMENT, Foundries::busy, f -> f.pass(days));
        }
        Checks.due("the least", 1, () -> Foundries.caseOf("a").pass(1));
        Checks.due("the most", 100, () -> Foundries.caseOf("a").pass(100));
    }
}

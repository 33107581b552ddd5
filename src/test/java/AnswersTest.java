import java.math.BigInteger;
import java.util.function.Supplier;

/** Promises 13 to 15 and 22: sorts, printer, count, digest. */
public final class AnswersTest {
    /** Worked out apart from any foundry: of the numbers only the metal, 500, is not 0. */
    private static final long DIGEST_OF_A_NEW_OBJECT = 2309455833500321315L;

    public static void main(String[] args) {
        sortsWithJustThisWear();
        sortsOfTheStock();
        sortsPrinter();
        sortsSign();
        sortsWear();
        printerCoinsAndOwed();
        printerSorts();
        printerCopies();
        printerWords();
        printerReturnsThis();
        printerPrinter();
        printerWhat();
        countReturnsThis();
        countInAll();
        countWhat();
        digestOfANewObject();
        digestInItsOrder();
        digestWrapsAround();
        digestReturnsD();
        Checks.end("AnswersTest", 13, 14, 15, 22);
    }

    private static void sortsWithJustThisWear() {
        Checks.holds(13, "Returns how many sorts of the sign with just this wear there are in the case (or the stock).");
        for (int sign : new int[] {0, 25, 26, 28}) {
            int[] due = {3, 0, 0, 2, 0, 0, 0, 4, 0, 0};
            for (int wear = 0; wear <= 9; wear++) {
                int w = wear;
                Checks.told("the case, wear " + w, due[w], () -> Foundries.caseOfThreeWears(sign), f -> f.sorts(0, sign, w));
                Checks.told("the stock, wear " + w, due[w], () -> Foundries.stockOfThreeWears(sign), f -> f.sorts(-1, sign, w));
            }
        }
        TypeFoundry f = Foundries.caseOf("aab");
        f.set(0, Checks.word("ab"));
        Checks.due("not those of the form", 1, () -> f.sorts(0, 0, 0));
        Checks.due("not another sign's", 0, () -> f.sorts(0, 1, 0));
        Checks.due("not another's", 0, () -> f.sorts(1, 0, 0));
    }

    private static void sortsOfTheStock() {
        Checks.holds(13, "a printer; -1 for the stock of the foundry");
        TypeFoundry f = Foundries.caseOf("aab");
        f.cast(0, 7);
        Checks.due("-1 is the stock", 7, () -> f.sorts(-1, 0, 0));
        Checks.due("0 is a printer", 2, () -> f.sorts(0, 0, 0));
        Checks.due("-1, before a printer came", 0, () -> new TypeFoundry().sorts(-1, 0, 0));
    }

    private static void sortsPrinter() {
        Checks.holds(13, "there is no such printer, and it is not -1");
        for (int printer : Foundries.NO_PRINTERS) {
            if (printer != -1) {
                Checks.refused("sorts(" + printer + ", 0, 0)", Checks.BAD_INDEX, Foundries::busy, f -> f.sorts(printer, 0, 0));
            }
        }
        Checks.refused("no printer came", Checks.BAD_INDEX, TypeFoundry::new, f -> f.sorts(0, 0, 0));
    }

    private static void sortsSign() {
        Checks.holds(13, "sign is not 0 to 28");
        for (int sign : Foundries.NO_SIGNS) {
            for (int printer = -1; printer < 2; printer++) {
                int p = printer;
                Checks.refused("sorts(" + p + ", " + sign + ", 0)", Checks.BAD_INDEX, Foundries::busy, f -> f.sorts(p, sign, 0));
            }
        }
        Checks.due("the least", 1, () -> Foundries.caseOf("a", 0, 0, 2).sorts(0, 0, 0));
        Checks.due("the greatest", 2, () -> Foundries.caseOf("a", 0, 0, 2).sorts(0, 28, 0));
    }

    private static void sortsWear() {
        Checks.holds(13, "wear is not 0 to 9");
        for (int wear : Foundries.NO_WEARS) {
            for (int printer = -1; printer < 2; printer++) {
                int p = printer;
                Checks.refused("sorts(" + p + ", 1, " + wear + ")", Checks.BAD_INDEX, Foundries::busy, f -> f.sorts(p, 1, wear));
            }
        }
        TypeFoundry f = Foundries.caseOf("a");
        Checks.due("the least", 1, () -> f.sorts(0, 0, 0));
        f.set(0, 1);
        f.print(0, 450);
        f.distribute(0);
        Checks.due("the greatest", 1, () -> f.sorts(0, 0, 9));
        Checks.due("no more the least", 0, () -> f.sorts(0, 0, 0));
    }

    private static void printerCoinsAndOwed() {
        Checks.holds(14, "0 the coins, 1 what is owed");
        TypeFoundry f = new TypeFoundry();
        f.come(5);
        f.cast(0, 12);
        f.rent(0, 0, 12);
        Checks.due("coins", 5, () -> f.printer(0, 0));
        Checks.due("owed", 0, () -> f.printer(0, 1));
        f.pass(2);
        Checks.due("coins", 5, () -> f.printer(0, 0));
        Checks.due("owed", 4, () -> f.printer(0, 1));
        f.pay(0);
        Checks.due("coins", 1, () -> f.printer(0, 0));
        Checks.due("owed", 0, () -> f.printer(0, 1));
        f.pass(1);
        f.pay(0);
        Checks.due("coins", 0, () -> f.printer(0, 0));
        Checks.due("owed", 1, () -> f.printer(0, 1));
    }

    private static void printerSorts() {
        Checks.holds(14, "2 sorts in the case, 3 sorts in the form, 4 their wear, added");
        TypeFoundry f = Foundries.caseOfThreeWears(0);
        Checks.due("case", 9, () -> f.printer(0, 2));
        Checks.due("form", 0, () -> f.printer(0, 3));
        Checks.due("an empty form has no wear, whatever is in the case", 0, () -> f.printer(0, 4));
        f.set(0, Checks.word("aaaaa"));
        Checks.due("case", 4, () -> f.printer(0, 2));
        Checks.due("form", 5, () -> f.printer(0, 3));
        Checks.due("four of 7, one of 3", 31, () -> f.printer(0, 4));
        f.print(0, 100);
        Checks.due("four of 9, one of 5", 41, () -> f.printer(0, 4));
        f.print(0, 50);
        Checks.due("form", 1, () -> f.printer(0, 3));
        Checks.due("one of 6", 6, () -> f.printer(0, 4));
        Checks.due("case", 4, () -> f.printer(0, 2));
    }

    private static void printerCopies() {
        Checks.holds(14, "5 copies that were printed in all");
        TypeFoundry f = Foundries.caseOf("ab");
        int printed = 0;
        f.set(0, Checks.word("a"));
        for (int copies : new int[] {1, 49, 50, 1000}) {
            f.print(0, copies);
            printed += copies;
            int due = printed;
            Checks.due("in all", due, () -> f.printer(0, 5));
        }
        f.distribute(0);
        f.set(0, Checks.word("b"));
        f.print(0, 3);
        Checks.due("put back in between", 1103, () -> f.printer(0, 5));
        Checks.due("another's", 0, () -> f.printer(1, 5));
    }

    private static void printerWords() {
        Checks.holds(14, "6 words that were set since the form was put back last (whatever broke)");
        TypeFoundry f = Foundries.caseOf("aaabbb", 1, 0, 0);
        f.set(0, Checks.word("ab"));
        f.set(0, Checks.word("fi"));
        Checks.due("two words", 2, () -> f.printer(0, 6));
        Checks.due("a word that can not be set", Checks.BAD_STATE, () -> f.set(0, Checks.word("zz")));
        Checks.due("two words", 2, () -> f.printer(0, 6));
        f.print(0, 500);
        Checks.due("all broke", 2, () -> f.printer(0, 6));
        f.set(0, Checks.word("a"));
        Checks.due("one more", 3, () -> f.printer(0, 6));
        f.distribute(0);
        Checks.due("put back", 0, () -> f.printer(0, 6));
        f.set(0, Checks.word("a"));
        Checks.due("one since", 1, () -> f.printer(0, 6));
        f.print(0, 500);
        f.distribute(0);
        Checks.due("put back when all broke", 0, () -> f.printer(0, 6));
    }

    private static void printerReturnsThis() {
        Checks.holds(14, "Returns this.");
        int[][] due = {{3, 10, 7, 4, 15, 920, 2}, {35, 0, 4, 0, 0, 200, 0}};
        for (int printer = 0; printer < due.length; printer++) {
            for (int what = 0; what <= 6; what++) {
                int p = printer;
                int w = what;
                Checks.told("printer(" + p + ", " + w + ")", due[p][w], Foundries::busy, f -> f.printer(p, w));
            }
        }
    }

    private static void printerPrinter() {
        Checks.holds(14, "there is no such printer");
        for (int printer : Foundries.NO_PRINTERS) {
            for (int what : new int[] {-1, 0, 6, 7}) {
                Checks.refused("printer(" + printer + ", " + what + ")", Checks.BAD_INDEX, Foundries::busy, f -> f.printer(printer, what));
            }
        }
        Checks.refused("no printer came", Checks.BAD_INDEX, TypeFoundry::new, f -> f.printer(0, 0));
    }

    private static void printerWhat() {
        Checks.holds(14, "what is not 0 to 6");
        for (int what : new int[] {-1, 7, 8, Foundries.LEAST, Foundries.MOST}) {
            Checks.refused("printer(0, " + what + ")", Checks.BAD_INDEX, Foundries::busy, f -> f.printer(0, what));
        }
        Checks.due("the least", 3, () -> Foundries.busy().printer(0, 0));
        Checks.due("the greatest", 2, () -> Foundries.busy().printer(0, 6));
    }

    private static void countReturnsThis() {
        Checks.holds(15, "Returns this.");
        int[] due = {5, 452, 5, 7, 2, 22, 0, 0};
        for (int what = 0; what <= 7; what++) {
            int w = what;
            Checks.told("count(" + w + ")", due[w], Foundries::busy, f -> f.count(w));
        }
    }

    private static void countInAll() {
        Checks.holds(15, "0 the day, 1 the metal, 2 the coins, 3 sorts in the stock, 4 printers, 5 sorts that were cast in all, 6 that broke in all, 7 that were melted in all");
        TypeFoundry f = Foundries.caseOf("aabb");
        f.come(9);
        f.cast(3, 6);
        f.rent(2, 3, 2);
        f.set(0, Checks.word("ab"));
        f.print(0, 100);
        f.distribute(0);
        f.giveBack(0, 0, 1);
        f.set(0, Checks.word("b"));
        f.print(0, 1000);
        f.pass(4);
        f.pay(2);
        f.melt(2);
        int[] due = {4, 481, 4, 4, 3, 10, 1, 1};
        for (int what = 0; what <= 7; what++) {
            int w = what;
            Checks.due("count(" + w + ")", due[w], () -> f.count(w));
        }
        f.cast(3, 1);
        f.giveBack(0, 0, 1);
        f.set(0, Checks.word("b"));
        f.print(0, 450);
        f.print(0, 50);
        f.pass(3);
        Foundries.stock(f, 0, 28, 2, 1);
        f.melt(1);
        f.pay(2);
        int[] later = {7, 477, 7, 6, 3, 13, 2, 3};
        for (int what = 0; what <= 7; what++) {
            int w = what;
            Checks.due("later: count(" + w + ")", later[w], () -> f.count(w));
        }
    }

    private static void countWhat() {
        Checks.holds(15, "what is not 0 to 7");
        for (int what : new int[] {-1, 8, 9, Foundries.LEAST, Foundries.MOST}) {
            Checks.refused("count(" + what + ")", Checks.BAD_INDEX, Foundries::busy, f -> f.count(what));
        }
        Checks.due("the least", 5, () -> Foundries.busy().count(0));
        Checks.due("the greatest", 0, () -> Foundries.busy().count(7));
    }

    private static void digestOfANewObject() {
        Checks.holds(22, "A number d starts with 751");
        Checks.due("a new object", DIGEST_OF_A_NEW_OBJECT, () -> new TypeFoundry().digest());
    }

    private static void digestInItsOrder() {
        Checks.holds(22, "what count() tells, in its order; for the stock, and then each printer: for each sign and each wear what sorts() tells (sign by sign); for each printer what printer() tells, in its order.");
        Supplier<TypeFoundry> none = () -> Foundries.withMetal(37);
        Checks.due("no printer", digestOf(none).longValue(), () -> none.get().digest());
        Checks.due("two printers", digestOf(Foundries::busy).longValue(), () -> Foundries.busy().digest());
        Checks.due("six printers", digestOf(AnswersTest::busySix).longValue(), () -> busySix().digest());
    }

    private static TypeFoundry busySix() {
        TypeFoundry six = Foundries.busy();
        for (int i = 2; i < 6; i++) {
            six.come(i);
        }
        six.rent(5, 0, 2);
        return six;
    }

    private static void digestWrapsAround() {
        Checks.holds(22, "d becomes d * 31 + x, which wraps around as a 64-bit integer");
        BigInteger whole = digestOf(Foundries::busy);
        Checks.due("far beyond 64 bits", true, () -> whole.bitLength() > 1000);
        Checks.due("the lowest 64 bits of it", whole.longValue(), () -> Foundries.busy().digest());
    }

    private static void digestReturnsD() {
        Checks.holds(22, "Returns d.");
        long d = digestOf(Foundries::busy).longValue();
        Checks.told("changes nothing", d, Foundries::busy, TypeFoundry::digest);
        TypeFoundry f = Foundries.busy();
        Checks.due("once", d, f::digest);
        Checks.due("twice", d, f::digest);
        f.buy(1);
        Checks.due("of another state", false, () -> f.digest() == d);
    }

    /** The digest before it is cut to 64 bits. Each store is asked of its own foundry, to stay within 512 calls. */
    private static BigInteger digestOf(Supplier<TypeFoundry> maker) {
        TypeFoundry f = maker.get();
        int printers = f.count(4);
        BigInteger d = BigInteger.valueOf(751);
        for (int what = 0; what <= 7; what++) {
            d = next(d, f.count(what));
        }
        for (int printer = -1; printer < printers; printer++) {
            TypeFoundry asked = maker.get();
            for (int sign = 0; sign <= 28; sign++) {
                for (int wear = 0; wear <= 9; wear++) {
                    d = next(d, asked.sorts(printer, sign, wear));
                }
            }
        }
        for (int printer = 0; printer < printers; printer++) {
            for (int what = 0; what <= 6; what++) {
                d = next(d, f.printer(printer, what));
            }
        }
        return d;
    }

    private static BigInteger next(BigInteger d, int x) {
        return d.multiply(BigInteger.valueOf(31)).add(BigInteger.valueOf(x));
    }
}

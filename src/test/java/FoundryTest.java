/** Promises 2 to 4: cast, melt, buy. */
public final class FoundryTest {
    private static final String FIRST_NAMED = "If several exceptions apply, the one that is named first is thrown.";

    public static void main(String[] args) {
        castMakesNewSorts();
        castCosts();
        castReturnsTheMetal();
        castSign();
        castMany();
        castMetal();
        castStock();
        castFirstNamed();
        meltSomeWearOrMore();
        meltTheStockAlone();
        meltGives();
        meltReturnsHowMany();
        meltWear();
        meltMetal();
        meltFirstNamed();
        buyReturnsTheMetal();
        buyMetal();
        buyTooMuch();
        buyFirstNamed();
        Checks.end("FoundryTest", 2, 3, 4);
    }

    private static void castMakesNewSorts() {
        Checks.holds(2, "Casts new sorts");
        TypeFoundry f = Foundries.stockOfThreeWears(0);
        f.cast(0, 5);
        Checks.due("5 more, new", 8, () -> f.sorts(-1, 0, 0));
        Checks.due("worn ones stay", 2, () -> f.sorts(-1, 0, 3));
        Checks.due("no other sign", 0, () -> f.sorts(-1, 1, 0));
        Checks.due("in no case", 0, () -> f.printer(0, 2));
        Checks.due("stock", 14, () -> f.count(3));
        Checks.due("cast in all", 14, () -> f.count(5));
    }

    private static void castCosts() {
        Checks.holds(2, "each costs 2 of metal, of a ligature 3");
        for (int sign = 0; sign < 29; sign++) {
            int s = sign;
            Checks.due("cast(" + s + ", 1)", sign <= 25 ? 498 : 497, () -> new TypeFoundry().cast(s, 1));
            Checks.due("cast(" + s + ", 7)", sign <= 25 ? 486 : 479, () -> new TypeFoundry().cast(s, 7));
        }
    }

    private static void castReturnsTheMetal() {
        Checks.holds(2, "Returns the metal then.");
        TypeFoundry f = new TypeFoundry();
        Checks.due("cast", 480, () -> f.cast(3, 10));
        Checks.due("the metal then", 480, () -> f.count(1));
        Checks.due("cast on", 450, () -> f.cast(28, 10));
        Checks.due("the metal then", 450, () -> f.count(1));
    }

    private static void castSign() {
        Checks.holds(2, "sign is not 0 to 28");
        for (int sign : Foundries.NO_SIGNS) {
            Checks.refused("cast(" + sign + ", 1)", Checks.BAD_INDEX, Foundries::busy, f -> f.cast(sign, 1));
        }
        Checks.due("the least", 498, () -> new TypeFoundry().cast(0, 1));
        Checks.due("the greatest", 497, () -> new TypeFoundry().cast(28, 1));
    }

    private static void castMany() {
        Checks.holds(2, "many is not 1 to 200");
        for (int many : Foundries.NO_MANY) {
            Checks.refused("cast(0, " + many + ")", Checks.BAD_ARGUMENT, () -> Foundries.withMetal(9999), f -> f.cast(0, many));
            Checks.refused("cast(28, " + many + ")", Checks.BAD_ARGUMENT, () -> Foundries.withMetal(9999), f -> f.cast(28, many));
        }
        Checks.due("the least", 498, () -> new TypeFoundry().cast(0, 1));
        Checks.due("the most", 100, () -> new TypeFoundry().cast(0, 200));
        Checks.due("the most of a ligature", 1400, () -> Foundries.withMetal(2000).cast(28, 200));
    }

    private static void castMetal() {
        Checks.holds(2, "there is not so much metal");
        int[][] rows = {{0, 0, 1}, {1, 0, 1}, {0, 26, 1}, {2, 26, 1}, {399, 0, 200}, {599, 28, 200}, {99, 25, 50}, {299, 27, 100}};
        for (int[] row : rows) {
            Checks.refused("metal " + row[0] + ", cast(" + row[1] + ", " + row[2] + ")", Checks.BAD_STATE,
                    () -> Foundries.withMetal(row[0]), f -> f.cast(row[1], row[2]));
            int price = row[2] * (row[1] < 26 ? 2 : 3);
            Checks.due("metal " + price + ", all of it", 0, () -> Foundries.withMetal(price).cast(row[1], row[2]));
        }
    }

    private static void castStock() {
        Checks.holds(2, "there would be more than 999 sorts of the sign in the stock");
        int[][] rows = {{999, 1}, {998, 2}, {800, 200}, {980, 200}, {999, 200}};
        for (int[] row : rows) {
            for (int sign : new int[] {0, 28}) {
                Checks.refused(row[0] + " there, " + row[1] + " more of " + sign, Checks.BAD_STATE,
                        () -> rich(Foundries.withStock(sign, row[0])), f -> f.cast(sign, row[1]));
            }
        }
        Checks.due("just 999", 999, () -> castOn(Foundries.withStock(0, 800), 0, 199));
        Checks.due("just 999, by one", 999, () -> castOn(Foundries.withStock(0, 998), 0, 1));
        Checks.due("another sign than the 999", 1199, () -> castOn(Foundries.withStock(0, 999), 1, 200));
        TypeFoundry rented = rich(Foundries.withStock(0, 999));
        rented.come(0);
        rented.rent(0, 0, 5);
        Checks.due("those in a case are not in the stock", 999, () -> castOn(rented, 0, 5));
        Checks.due("999 of the sign again", Checks.BAD_STATE, () -> rented.cast(0, 1));
        rented.giveBack(0, 0, 5);
        Checks.due("999 is said of cast, not of giveBack", 1004, () -> rented.count(3));
        Checks.due("more than 999 already", Checks.BAD_STATE, () -> rented.cast(0, 1));
        Checks.refused("worn ones count as well", Checks.BAD_STATE, FoundryTest::oneWornOf999, f -> f.cast(0, 1));
        Checks.due("the worn one makes 999", 999, () -> oneWornOf999().count(3));
    }

    private static TypeFoundry rich(TypeFoundry f) {
        Foundries.buy(f, 3000);
        return f;
    }

    private static int castOn(TypeFoundry f, int sign, int many) {
        f.cast(sign, many);
        return f.count(3);
    }

    private static TypeFoundry oneWornOf999() {
        TypeFoundry f = Foundries.caseOf("");
        Foundries.buy(f, 4000);
        Foundries.stock(f, 0, 0, 1, 9);
        for (int i = 0; i < 4; i++) {
            f.cast(0, 200);
        }
        f.cast(0, 198);
        return f;
    }

    private static void castFirstNamed() {
        Checks.holds(2, FIRST_NAMED);
        for (int sign : Foundries.NO_SIGNS) {
            for (int many : Foundries.NO_MANY) {
                Checks.refused("sign, many and metal", Checks.BAD_INDEX, () -> Foundries.withMetal(0), f -> f.cast(sign, many));
            }
            Checks.refused("sign and metal", Checks.BAD_INDEX, () -> Foundries.withMetal(0), f -> f.cast(sign, 200));
        }
        for (int many : Foundries.NO_MANY) {
            Checks.refused("many and metal", Checks.BAD_ARGUMENT, () -> Foundries.withMetal(0), f -> f.cast(28, many));
            Checks.refused("many and stock", Checks.BAD_ARGUMENT, () -> rich(Foundries.withStock(0, 999)), f -> f.cast(0, many));
        }
    }

    /** One a of each wear, 0 to 9, and one fi of each wear in the stock. */
    private static TypeFoundry everyWear() {
        TypeFoundry f = Foundries.caseOf("");
        for (int wear = 9; wear >= 0; wear--) {
            Foundries.put(f, 0, 0, 1, wear);
            Foundries.put(f, 0, 26, 1, wear);
            f.giveBack(0, 0, 1);
            f.giveBack(0, 26, 1);
        }
        return f;
    }

    private static void meltSomeWearOrMore() {
        Checks.holds(3, "Melts all sorts of the stock with some wear or more");
        for (int least = 1; least <= 9; least++) {
            int wear = least;
            TypeFoundry f = everyWear();
            f.melt(wear);
            for (int w = 0; w <= 9; w++) {
                int asked = w;
                Checks.due("melt(" + wear + "), a of wear " + w, w < wear ? 1 : 0, () -> f.sorts(-1, 0, asked));
                Checks.due("melt(" + wear + "), fi of wear " + w, w < wear ? 1 : 0, () -> f.sorts(-1, 26, asked));
            }
        }
    }

    private static void meltTheStockAlone() {
        Checks.holds(3, "Melts all sorts of the stock");
        TypeFoundry f = Foundries.caseOf("");
        Foundries.put(f, 0, 0, 2, 9);
        f.set(0, 1);
        Checks.due("a case and a form are not melted", 0, () -> f.melt(1));
        Checks.due("the case", 1, () -> f.sorts(0, 0, 9));
        Checks.due("the form", 1, () -> f.printer(0, 3));
        f.giveBack(0, 0, 1);
        Checks.due("given back it is", 1, () -> f.melt(1));
        Checks.due("the form still", 1, () -> f.printer(0, 3));
    }

    private static void meltGives() {
        Checks.holds(3, "each gives 1 of metal, of a ligature 2");
        for (int sign = 0; sign < 29; sign++) {
            int s = sign;
            TypeFoundry f = Foundries.caseOf("");
            Foundries.stock(f, 0, sign, 3, 1);
            int before = f.count(1);
            f.melt(1);
            Checks.due("3 of sign " + s, before + (s <= 25 ? 3 : 6), () -> f.count(1));
        }
    }

    private static void meltReturnsHowMany() {
        Checks.holds(3, "Returns how many are melted.");
        Checks.due("none there", 0, () -> new TypeFoundry().melt(1));
        Checks.due("new ones alone", 0, () -> Foundries.withStock(0, 50).melt(1));
        int[] due = {0, 18, 16, 14, 12, 10, 8, 6, 4, 2};
        for (int least = 1; least <= 9; least++) {
            int wear = least;
            TypeFoundry f = everyWear();
            Checks.due("melt(" + wear + ")", due[wear], () -> f.melt(wear));
            Checks.due("in all", due[wear], () -> f.count(7));
            Checks.due("left", 20 - due[wear], () -> f.count(3));
            Checks.due("once more", 0, () -> f.melt(wear));
            Checks.due("in all, still", due[wear], () -> f.count(7));
        }
    }

    private static void meltWear() {
        Checks.holds(3, "wear is not 1 to 9");
        for (int wear : new int[] {0, -1, 10, Foundries.LEAST, Foundries.MOST}) {
            Checks.refused("melt(" + wear + ")", Checks.BAD_ARGUMENT, FoundryTest::everyWear, f -> f.melt(wear));
        }
        Checks.due("the least", 18, () -> everyWear().melt(1));
        Checks.due("the greatest", 2, () -> everyWear().melt(9));
    }

    /** As everyWear, with this metal. */
    private static TypeFoundry everyWear(int metal) {
        TypeFoundry f = everyWear();
        Foundries.buy(f, metal - f.count(1));
        return f;
    }

    private static void meltMetal() {
        Checks.holds(3, "there would be more than 9999 of metal");
        for (int least = 1; least <= 9; least++) {
            int wear = least;
            int gain = 3 * (10 - wear);
            Checks.refused("melt(" + wear + ") makes 10000", Checks.BAD_STATE, () -> everyWear(10000 - gain), f -> f.melt(wear));
            TypeFoundry edge = everyWear(9999 - gain);
            Checks.due("melt(" + wear + ") makes 9999", 2 * (10 - wear), () -> edge.melt(wear));
            Checks.due("9999", 9999, () -> edge.count(1));
            Checks.due("none to melt then", 0, () -> edge.melt(wear));
        }
        Checks.refused("metal is full", Checks.BAD_STATE, () -> everyWear(9999), f -> f.melt(9));
        Checks.due("metal is full, none to melt", 0, () -> Foundries.withMetal(9999).melt(1));
    }

    private static void meltFirstNamed() {
        Checks.holds(3, FIRST_NAMED);
        for (int wear : new int[] {0, -1, Foundries.LEAST}) {
            Checks.refused("wear and metal", Checks.BAD_ARGUMENT, () -> everyWear(9999), f -> f.melt(wear));
        }
    }

    private static void buyReturnsTheMetal() {
        Checks.holds(4, "Returns the metal then.");
        TypeFoundry f = new TypeFoundry();
        Checks.due("buy 30", 530, () -> f.buy(30));
        Checks.due("buy 7", 537, () -> f.buy(7));
        Checks.due("the metal then", 537, () -> f.count(1));
        Checks.due("no coins for it", 0, () -> f.count(2));
    }

    private static void buyMetal() {
        Checks.holds(4, "metal is not 1 to 2000");
        for (int metal : new int[] {0, -1, 2001, Foundries.LEAST, Foundries.MOST}) {
            Checks.refused("buy(" + metal + ")", Checks.BAD_ARGUMENT, Foundries::busy, f -> f.buy(metal));
        }
        Checks.due("the least", 501, () -> new TypeFoundry().buy(1));
        Checks.due("the most", 2500, () -> new TypeFoundry().buy(2000));
    }

    private static void buyTooMuch() {
        Checks.holds(4, "there would be more than 9999");
        for (int metal : new int[] {1, 2, 1000, 2000}) {
            Checks.refused("buy(" + metal + ") makes 10000", Checks.BAD_STATE, () -> Foundries.withMetal(10000 - metal), f -> f.buy(metal));
            Checks.due("buy(" + metal + ") makes 9999", 9999, () -> Foundries.withMetal(9999 - metal).buy(metal));
        }
        Checks.refused("metal is full", Checks.BAD_STATE, () -> Foundries.withMetal(9999), f -> f.buy(2000));
    }

    private static void buyFirstNamed() {
        Checks.holds(4, FIRST_NAMED);
        for (int metal : new int[] {2001, Foundries.MOST}) {
            Checks.refused("metal and too much", Checks.BAD_ARGUMENT, () -> Foundries.withMetal(9999), f -> f.buy(metal));
        }
    }
}

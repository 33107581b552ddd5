/** Promises 1 to 4: a new object, cast, melt, buy. */
public final class FoundryTest {
    public static void main(String[] args) {
        newObject();
        castCosts();
        castEdges();
        castRefuses();
        meltGives();
        meltRefuses();
        buyAdds();
        buyRefuses();
        Checks.end("FoundryTest");
    }

    private static void newObject() {
        TypeFoundry f = new TypeFoundry();
        int[] counts = {0, 500, 0, 0, 0, 0, 0, 0};
        for (int what = 0; what < counts.length; what++) {
            int asked = what;
            Checks.due("new: count(" + what + ")", counts[what], () -> f.count(asked));
        }
        for (int sign = 0; sign < 29; sign++) {
            for (int wear = 0; wear < 10; wear++) {
                int s = sign;
                int w = wear;
                Checks.due("new: sorts(-1, " + s + ", " + w + ")", 0, () -> f.sorts(-1, s, w));
            }
        }
        Checks.due("new: no printer", Checks.BAD_INDEX, () -> f.printer(0, 0));
        TypeFoundry other = new TypeFoundry();
        f.cast(0, 1);
        Checks.due("objects share nothing", 500, () -> other.count(1));
        Checks.due("objects share no stock", 0, () -> other.sorts(-1, 0, 0));
    }

    private static void castCosts() {
        TypeFoundry f = new TypeFoundry();
        Checks.due("cast a", 498, () -> f.cast(0, 1));
        Checks.due("cast z", 488, () -> f.cast(25, 5));
        Checks.due("cast fi", 485, () -> f.cast(26, 1));
        Checks.due("cast fl", 479, () -> f.cast(27, 2));
        Checks.due("cast ff", 470, () -> f.cast(28, 3));
        Checks.due("cast a again", 462, () -> f.cast(0, 4));
        Checks.due("new sorts are new", 5, () -> f.sorts(-1, 0, 0));
        Checks.due("new sorts of ff", 3, () -> f.sorts(-1, 28, 0));
        Checks.due("sorts in stock", 16, () -> f.count(3));
        Checks.due("cast in all", 16, () -> f.count(5));
    }

    private static void castEdges() {
        TypeFoundry f = new TypeFoundry();
        Checks.due("200 at once", 100, () -> f.cast(3, 200));
        Checks.due("all the metal", 0, () -> f.cast(4, 50));
        Checks.refused("no metal", Checks.BAD_STATE, f, () -> f.cast(4, 1));
        TypeFoundry g = new TypeFoundry();
        Checks.refused("167 ff need 501", Checks.BAD_STATE, g, () -> g.cast(28, 167));
        Checks.due("166 ff need 498", 2, () -> g.cast(28, 166));
        Checks.refused("one ff more", Checks.BAD_STATE, g, () -> g.cast(28, 1));
        Checks.due("one a more", 0, () -> g.cast(0, 1));

        TypeFoundry full = stockOf999();
        Checks.refused("1000 of a sign", Checks.BAD_STATE, full, () -> full.cast(25, 1));
        Checks.due("another sign still", 6500, () -> full.cast(24, 1));
        full.come(0);
        full.rent(0, 25, 1);
        Checks.due("999 of a sign again", 6498, () -> full.cast(25, 1));
        Checks.due("999 are not all of a sign that came back", 0, () -> full.giveBack(0, 25, 1));
        Checks.due("1000 in the stock, given back", 1000, () -> full.sorts(-1, 25, 0));
        Checks.refused("not cast on top", Checks.BAD_STATE, full, () -> full.cast(25, 1));
    }

    private static TypeFoundry stockOf999() {
        TypeFoundry f = new TypeFoundry();
        for (int i = 0; i < 4; i++) {
            f.buy(2000);
        }
        for (int i = 0; i < 4; i++) {
            f.cast(25, 200);
        }
        Checks.refused("1000 at the last cast", Checks.BAD_STATE, f, () -> f.cast(25, 200));
        Checks.due("999 of a sign", 6502, () -> f.cast(25, 199));
        return f;
    }

    private static void castRefuses() {
        TypeFoundry f = new TypeFoundry();
        Checks.refused("sign -1", Checks.BAD_INDEX, f, () -> f.cast(-1, 1));
        Checks.refused("sign 29", Checks.BAD_INDEX, f, () -> f.cast(29, 1));
        Checks.refused("sign before many", Checks.BAD_INDEX, f, () -> f.cast(29, 0));
        Checks.refused("sign of all", Checks.BAD_INDEX, f, () -> f.cast(Integer.MIN_VALUE, Integer.MAX_VALUE));
        Checks.refused("many 0", Checks.BAD_ARGUMENT, f, () -> f.cast(0, 0));
        Checks.refused("many -1", Checks.BAD_ARGUMENT, f, () -> f.cast(0, -1));
        Checks.refused("many before metal", Checks.BAD_ARGUMENT, f, () -> f.cast(28, 201));
        Checks.refused("many of all", Checks.BAD_ARGUMENT, f, () -> f.cast(0, Integer.MAX_VALUE));
    }

    /** A stock of 3 a, wear 2; 2 fi, wear 2; 4 b, wear 5; 1 z, wear 0. */
    private static TypeFoundry wornStock() {
        TypeFoundry f = new TypeFoundry();
        f.cast(0, 3);
        f.cast(26, 2);
        f.cast(1, 4);
        f.come(0);
        f.rent(0, 0, 3);
        f.rent(0, 26, 2);
        f.set(0, Checks.word("aaa"));
        f.set(0, Checks.word("fifi"));
        f.print(0, 100);
        f.distribute(0);
        f.giveBack(0, 0, 3);
        f.giveBack(0, 26, 2);
        f.rent(0, 1, 4);
        f.set(0, Checks.word("bbbb"));
        f.print(0, 250);
        f.distribute(0);
        f.giveBack(0, 1, 4);
        f.cast(25, 1);
        return f;
    }

    private static void meltGives() {
        TypeFoundry f = wornStock();
        Checks.due("metal before", 478, () -> f.count(1));
        Checks.due("melt(6): none", 0, () -> f.melt(6));
        Checks.due("melt(5): the b", 4, () -> f.melt(5));
        Checks.due("4 of metal more", 482, () -> f.count(1));
        Checks.due("melt(3): none", 0, () -> f.melt(3));
        Checks.due("melt(1): the a and the fi", 5, () -> f.melt(1));
        Checks.due("3 + 4 of metal more", 489, () -> f.count(1));
        Checks.due("the z is left", 1, () -> f.count(3));
        Checks.due("melted in all", 9, () -> f.count(7));
        Checks.due("cast in all stays", 10, () -> f.count(5));
        Checks.due("a are gone", 0, () -> f.sorts(-1, 0, 2));
        TypeFoundry g = wornStock();
        Checks.due("melt(2): some wear or more", 9, () -> g.melt(2));
        Checks.due("metal of all", 489, () -> g.count(1));
        TypeFoundry h = wornStock();
        h.rent(0, 1, 4);
        Checks.due("a case is not melted", 5, () -> h.melt(1));
        Checks.due("a case stays", 4, () -> h.sorts(0, 1, 5));
    }

    private static void meltRefuses() {
        TypeFoundry f = wornStock();
        Checks.refused("wear 0", Checks.BAD_ARGUMENT, f, () -> f.melt(0));
        Checks.refused("wear 10", Checks.BAD_ARGUMENT, f, () -> f.melt(10));
        Checks.refused("wear -1", Checks.BAD_ARGUMENT, f, () -> f.melt(-1));
        TypeFoundry full = wornStock();
        for (int i = 0; i < 4; i++) {
            full.buy(2000);
        }
        full.buy(1511);
        Checks.due("metal 9989", 9989, () -> full.count(1));
        Checks.refused("11 of metal do not fit", Checks.BAD_STATE, full, () -> full.melt(1));
        Checks.refused("wear before metal", Checks.BAD_ARGUMENT, full, () -> full.melt(0));
        Checks.due("4 fit", 4, () -> full.melt(5));
        Checks.due("then 9993", 9993, () -> full.count(1));
        Checks.refused("7 do not fit", Checks.BAD_STATE, full, () -> full.melt(1));
        TypeFoundry edge = wornStock();
        for (int i = 0; i < 4; i++) {
            edge.buy(2000);
        }
        edge.buy(1510);
        Checks.due("just 9999", 9, () -> edge.melt(1));
        Checks.due("metal 9999", 9999, () -> edge.count(1));
        Checks.due("none at full metal", 0, () -> edge.melt(1));
    }

    private static void buyAdds() {
        TypeFoundry f = new TypeFoundry();
        Checks.due("buy 1", 501, () -> f.buy(1));
        Checks.due("buy 2000", 2501, () -> f.buy(2000));
        Checks.due("metal", 2501, () -> f.count(1));
        Checks.due("coins stay", 0, () -> f.count(2));
        f.buy(2000);
        f.buy(2000);
        f.buy(2000);
        Checks.refused("10000", Checks.BAD_STATE, f, () -> f.buy(1499));
        Checks.due("9999", 9999, () -> f.buy(1498));
        Checks.refused("one more", Checks.BAD_STATE, f, () -> f.buy(1));
    }

    private static void buyRefuses() {
        TypeFoundry f = new TypeFoundry();
        Checks.refused("buy 0", Checks.BAD_ARGUMENT, f, () -> f.buy(0));
        Checks.refused("buy -1", Checks.BAD_ARGUMENT, f, () -> f.buy(-1));
        Checks.refused("buy 2001", Checks.BAD_ARGUMENT, f, () -> f.buy(2001));
        for (int i = 0; i < 4; i++) {
            f.buy(2000);
        }
        Checks.refused("argument before state", Checks.BAD_ARGUMENT, f, () -> f.buy(2001));
        Checks.refused("argument of all", Checks.BAD_ARGUMENT, f, () -> f.buy(Integer.MAX_VALUE));
    }
}

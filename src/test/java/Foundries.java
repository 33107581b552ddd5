/** Foundries in states that the tests begin with, and arguments that are just outside what is allowed. */
final class Foundries {
    static final int LEAST = Integer.MIN_VALUE;
    static final int MOST = Integer.MAX_VALUE;

    static final int[] NO_SIGNS = {-1, 29, LEAST, MOST};
    static final int[] NO_MANY = {0, -1, 201, LEAST, MOST};
    static final int[] NO_WEARS = {-1, 10, LEAST, MOST};
    /** Where there are 2 printers. */
    static final int[] NO_PRINTERS = {-1, -2, 2, 3, 5, 6, 7, LEAST, MOST};
    /** Digits 0 at the end, in the middle and after the first one; seven digits; nothing, and less than that. */
    static final int[] NO_WORDS = {0, -1, -28, LEAST, 27, 54, 27 * 27, 27 * 27 + 1, 27 * 27 * 27 + 27 + 1,
        14348907, 13 * 14348907, 14348907 + 531441, 387420489, 402321277, MOST};

    static final int F = 5;
    static final int I = 8;
    static final int L = 11;
    static final int Z = 25;
    static final int FI = 26;
    static final int FL = 27;
    static final int FF = 28;

    private Foundries() {
    }

    /** A foundry with this metal (not 499), as few sorts as need be in its stock, and no printer. */
    static TypeFoundry withMetal(int metal) {
        TypeFoundry f = new TypeFoundry();
        buy(f, metal - 500);
        int spare = 500 - metal;
        if (spare > 0 && spare % 2 == 1) {
            f.cast(FF, 1);
            spare -= 3;
        }
        for (; spare > 0; spare -= 2 * Math.min(200, spare / 2)) {
            f.cast(Z, Math.min(200, spare / 2));
        }
        return f;
    }

    static void buy(TypeFoundry f, int metal) {
        for (int rest = metal; rest > 0; rest -= 2000) {
            f.buy(Math.min(2000, rest));
        }
    }

    /** A foundry without metal to spare, and so many new sorts of a sign in its stock. */
    static TypeFoundry withStock(int sign, int many) {
        TypeFoundry f = new TypeFoundry();
        buy(f, many * 3);
        for (int rest = many; rest > 0; rest -= 200) {
            f.cast(sign, Math.min(200, rest));
        }
        return f;
    }

    /** Two printers; the case of the first one holds these letters, and so many fi, fl and ff, all new. */
    static TypeFoundry caseOf(String letters, int fi, int fl, int ff) {
        TypeFoundry f = new TypeFoundry();
        f.come(0);
        f.come(0);
        int[] many = new int[29];
        for (int i = 0; i < letters.length(); i++) {
            many[letters.charAt(i) - 'a']++;
        }
        many[FI] = fi;
        many[FL] = fl;
        many[FF] = ff;
        for (int sign = 0; sign < many.length; sign++) {
            if (many[sign] > 0) {
                f.cast(sign, many[sign]);
                f.rent(0, sign, many[sign]);
            }
        }
        return f;
    }

    static TypeFoundry caseOf(String letters) {
        return caseOf(letters, 0, 0, 0);
    }

    /** Two printers; of 67 a so many are in the form of the first one (60 at most), the others in its case. */
    static TypeFoundry formOf(int many) {
        TypeFoundry f = new TypeFoundry();
        f.come(0);
        f.come(0);
        f.cast(0, 67);
        f.rent(0, 0, 67);
        setAll(f, 0, "a", many);
        return f;
    }

    /** Puts sorts of a wear into a case that has none of their sign yet; the printer's form has to be empty. */
    static void put(TypeFoundry f, int printer, int sign, int many, int wear) {
        f.cast(sign, many);
        f.rent(printer, sign, many);
        if (wear > 0) {
            setAll(f, printer, textOf(sign), many);
            f.print(printer, 50 * wear);
            f.distribute(printer);
        }
    }

    /** Puts sorts of a wear into the stock, by way of a case that has none of their sign. */
    static void stock(TypeFoundry f, int printer, int sign, int many, int wear) {
        put(f, printer, sign, many, wear);
        f.giveBack(printer, sign, many);
    }

    /** Three wears of one sign in the case of printer 0: 3 of wear 0, 2 of wear 3, 4 of wear 7. */
    static TypeFoundry caseOfThreeWears(int sign) {
        TypeFoundry f = stockOfThreeWears(sign);
        f.rent(0, sign, 9);
        return f;
    }

    /** Three wears of one sign in the stock: 3 of wear 0, 2 of wear 3, 4 of wear 7; two printers. */
    static TypeFoundry stockOfThreeWears(int sign) {
        TypeFoundry f = new TypeFoundry();
        f.come(0);
        f.come(0);
        put(f, 0, sign, 2, 3);
        put(f, 1, sign, 4, 7);
        f.giveBack(0, sign, 2);
        f.giveBack(1, sign, 4);
        f.cast(sign, 3);
        return f;
    }

    /** Two printers and something of everything: worn sorts, a form, rent that is owed, a day that went by. */
    static TypeFoundry busy() {
        TypeFoundry f = new TypeFoundry();
        f.come(3);
        f.come(40);
        stock(f, 1, 0, 3, 4);
        stock(f, 0, FF, 2, 9);
        put(f, 0, F, 4, 2);
        put(f, 0, I, 2, 5);
        f.cast(F, 4);
        f.rent(0, F, 3);
        f.cast(FI, 2);
        f.rent(0, FI, 2);
        f.cast(L, 5);
        f.rent(1, L, 4);
        f.set(0, Checks.word("fifi"));
        f.set(0, Checks.word("if"));
        f.print(0, 120);
        f.pass(5);
        f.pay(1);
        return f;
    }

    private static void setAll(TypeFoundry f, int printer, String text, int many) {
        int atOnce = 6 / text.length();
        for (int rest = many; rest > 0; rest -= atOnce) {
            f.set(printer, Checks.word(text.repeat(Math.min(atOnce, rest))));
        }
    }

    private static String textOf(int sign) {
        return sign < FI ? String.valueOf((char) ('a' + sign)) : new String[] {"fi", "fl", "ff"}[sign - FI];
    }
}

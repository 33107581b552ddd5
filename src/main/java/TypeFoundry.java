import java.util.Arrays;

/**
 * A letter foundry: sorts of type are cast from metal, rented to printers, set into lines with
 * ligatures, printed from, worn, put back, given back for rent, and melted.
 */
public final class TypeFoundry {
    private static final int LETTERS = 26;
    private static final int FI = 26;
    private static final int FL = 27;
    private static final int FF = 28;
    private static final int SIGNS = 29;
    private static final int WEARS = 10;

    private static final int LETTER_F = 5;
    private static final int LETTER_I = 8;
    private static final int LETTER_L = 11;
    private static final int LONGEST_WORD = 6;
    private static final int WORD_BASE = 27;
    private static final int GREATEST_WORD = 387420488;

    private static final int FIRST_METAL = 500;
    private static final int MOST_METAL = 9999;
    private static final int MOST_METAL_BOUGHT = 2000;
    private static final int MOST_SORTS_MOVED = 200;
    private static final int MOST_OF_A_SIGN_IN_STOCK = 999;
    private static final int MOST_PRINTERS = 6;
    private static final int MOST_COINS_BROUGHT = 5000;
    private static final int MOST_SORTS_IN_FORM = 60;
    private static final int MOST_COPIES = 1000;
    private static final int MOST_DAYS = 100;
    private static final int COPIES_FOR_A_WEAR = 50;
    private static final int SORTS_FOR_A_COIN = 10;

    private static final int STOCK = -1;
    private static final int NONE = -1;
    private static final int COUNTS = 8;
    private static final int PRINTER_NUMBERS = 7;
    private static final long DIGEST_START = 751;
    private static final long DIGEST_FACTOR = 31;

    private final Sorts stock = new Sorts();
    private final Printer[] printers = new Printer[MOST_PRINTERS];
    private int printersThere;
    private int day;
    private int metal = FIRST_METAL;
    private int coins;
    private int everCast;
    private int everBroken;
    private int everMelted;

    // Made once and used again by every call, so that no call has to make arrays.
    private final Word spelled = new Word();
    private final Setting setting = new Setting();

    public TypeFoundry() {
    }

    // ---- the foundry

    public int cast(int sign, int many) throws IndexOutOfBoundsException, IllegalArgumentException, IllegalStateException {
        needSign(sign);
        needMany(many);
        int price = many * (isLigature(sign) ? 3 : 2);
        if (price > metal) {
            throw new IllegalStateException("there is not so much metal");
        }
        if (stock.ofSign(sign) + many > MOST_OF_A_SIGN_IN_STOCK) {
            throw new IllegalStateException("there would be more than 999 sorts of the sign in the stock");
        }
        metal -= price;
        stock.change(sign, 0, many);
        everCast += many;
        return metal;
    }

    public int melt(int wear) throws IllegalArgumentException, IllegalStateException {
        if (wear < 1 || wear >= WEARS) {
            throw new IllegalArgumentException("wear is not 1 to 9");
        }
        int gain = stock.metalFrom(wear);
        if (metal + gain > MOST_METAL) {
            throw new IllegalStateException("there would be more than 9999 of metal");
        }
        int melted = stock.dropFrom(wear);
        metal += gain;
        everMelted += melted;
        return melted;
    }

    public int buy(int metal) throws IllegalArgumentException, IllegalStateException {
        if (metal < 1 || metal > MOST_METAL_BOUGHT) {
            throw new IllegalArgumentException("metal is not 1 to 2000");
        }
        if (this.metal + metal > MOST_METAL) {
            throw new IllegalStateException("there would be more than 9999 of metal");
        }
        this.metal += metal;
        return this.metal;
    }

    // ---- printers

    public int come(int coins) throws IllegalArgumentException, IllegalStateException {
        if (coins < 0 || coins > MOST_COINS_BROUGHT) {
            throw new IllegalArgumentException("coins is not 0 to 5000");
        }
        int number = printersThere;
        if (number < 0 || number >= printers.length) {
            throw new IllegalStateException("there are 6 printers");
        }
        printers[number] = new Printer(coins);
        printersThere++;
        return number;
    }

    public int rent(int printer, int sign, int many) throws IndexOutOfBoundsException, IllegalArgumentException, IllegalStateException {
        Printer renter = needPrinter(printer);
        needSign(sign);
        needMany(many);
        if (stock.ofSign(sign) < many) {
            throw new IllegalStateException("there are not so many in the stock");
        }
        return stock.moveLeastWorn(renter.tray, sign, many);
    }

    public int giveBack(int printer, int sign, int many) throws IndexOutOfBoundsException, IllegalArgumentException, IllegalStateException {
        Printer renter = needPrinter(printer);
        needSign(sign);
        needMany(many);
        if (renter.tray.ofSign(sign) < many) {
            throw new IllegalStateException("there are not so many in the case");
        }
        return renter.tray.moveMostWorn(stock, sign, many);
    }

    public int pay(int printer) throws IndexOutOfBoundsException {
        Printer payer = needPrinter(printer);
        int paid = Math.min(payer.owed, payer.coins);
        payer.owed -= paid;
        payer.coins -= paid;
        coins += paid;
        return paid;
    }

    public int set(int printer, int word) throws IndexOutOfBoundsException, IllegalArgumentException, IllegalStateException {
        Printer setter = needPrinter(printer);
        Word letters = needWord(word);
        setting.fillFrom(setter.tray);
        int sorts = setting.lay(letters);
        if (sorts == NONE) {
            throw new IllegalStateException("the word cannot be set");
        }
        if (setter.form.inAll() + sorts > MOST_SORTS_IN_FORM) {
            throw new IllegalStateException("there would be more than 60 sorts in the form");
        }
        for (int sign = 0; sign < SIGNS; sign++) {
            setter.tray.moveMostWorn(setter.form, sign, setting.taken(sign));
        }
        setter.words++;
        return sorts;
    }

    public int print(int printer, int copies) throws IndexOutOfBoundsException, IllegalArgumentException, IllegalStateException {
        Printer presser = needPrinter(printer);
        if (copies < 1 || copies > MOST_COPIES) {
            throw new IllegalArgumentException("copies is not 1 to 1000");
        }
        if (presser.form.inAll() == 0) {
            throw new IllegalStateException("the form is empty");
        }
        int broken = presser.form.wearBy(copies / COPIES_FOR_A_WEAR);
        presser.copies += copies;
        everBroken += broken;
        return broken;
    }

    public int distribute(int printer) throws IndexOutOfBoundsException {
        Printer tidier = needPrinter(printer);
        int sorts = tidier.form.inAll();
        for (int sign = 0; sign < SIGNS; sign++) {
            tidier.form.moveLeastWorn(tidier.tray, sign, tidier.form.ofSign(sign));
        }
        tidier.words = 0;
        return sorts;
    }

    public int pass(int days) throws IllegalArgumentException {
        if (days < 1 || days > MOST_DAYS) {
            throw new IllegalArgumentException("days is not 1 to 100");
        }
        day += days;
        int owed = 0;
        for (int i = 0; i < printers.length; i++) {
            Printer debtor = printers[i];
            if (debtor != null) {
                debtor.owed += days * debtor.rentOfADay();
                owed += debtor.owed;
            }
        }
        return owed;
    }

    // ---- what is there

    public int sorts(int printer, int sign, int wear) throws IndexOutOfBoundsException {
        Sorts asked = printer == STOCK ? stock : needPrinter(printer).tray;
        needSign(sign);
        if (wear < 0 || wear >= WEARS) {
            throw new IndexOutOfBoundsException("wear is not 0 to 9");
        }
        return asked.at(sign, wear);
    }

    public int printer(int printer, int what) throws IndexOutOfBoundsException {
        Printer asked = needPrinter(printer);
        if (what < 0 || what >= PRINTER_NUMBERS) {
            throw new IndexOutOfBoundsException("what is not 0 to 6");
        }
        return asked.number(what);
    }

    public int count(int what) throws IndexOutOfBoundsException {
        if (what < 0 || what >= COUNTS) {
            throw new IndexOutOfBoundsException("what is not 0 to 7");
        }
        return number(what);
    }

    // ---- what would be

    public int takes(int printer, int word) throws IndexOutOfBoundsException, IllegalArgumentException {
        Printer setter = needPrinter(printer);
        Word letters = needWord(word);
        setting.fillFrom(setter.tray);
        return setting.lay(letters);
    }

    public int lacks(int printer, int word) throws IndexOutOfBoundsException, IllegalArgumentException {
        Printer setter = needPrinter(printer);
        Word letters = needWord(word);
        int lacking = NONE;
        int greatestLack = 0;
        for (int letter = 0; letter < LETTERS; letter++) {
            int lack = letters.howOften(letter) - setter.tray.ofSign(letter);
            if (lack > greatestLack) {
                greatestLack = lack;
                lacking = letter;
            }
        }
        return lacking;
    }

    public int bears(int printer) throws IndexOutOfBoundsException {
        Printer presser = needPrinter(printer);
        int wear = presser.form.greatestWear();
        return wear == NONE ? 0 : COPIES_FOR_A_WEAR * (WEARS - wear) - 1;
    }

    public int saves(int word, int other) throws IllegalArgumentException {
        setting.fillWithoutEnd();
        setting.lay(needWord(word));
        setting.lay(needWord(other));
        int saving = NONE;
        int most = 0;
        for (int ligature = LETTERS; ligature < SIGNS; ligature++) {
            int often = setting.takenOfPlenty(ligature);
            if (often > most) {
                most = often;
                saving = ligature;
            }
        }
        return saving;
    }

    public int times(int printer, int word) throws IndexOutOfBoundsException, IllegalArgumentException {
        Printer setter = needPrinter(printer);
        Word letters = needWord(word);
        setting.fillFrom(setter.tray);
        return setting.layTillOneLacks(letters);
    }

    public double mean() {
        int sorts = stock.inAll();
        return sorts == 0 ? 0.0 : (double) stock.wearInAll() / sorts;
    }

    public long digest() {
        long d = DIGEST_START;
        for (int what = 0; what < COUNTS; what++) {
            d = d * DIGEST_FACTOR + number(what);
        }
        d = stock.digestOnto(d);
        for (int i = 0; i < printers.length; i++) {
            Printer next = printers[i];
            if (next != null) {
                d = next.tray.digestOnto(d);
            }
        }
        for (int i = 0; i < printers.length; i++) {
            Printer next = printers[i];
            if (next != null) {
                d = next.digestOnto(d);
            }
        }
        return d;
    }

    // ---- helpers

    private static void needSign(int sign) {
        if (sign < 0 || sign >= SIGNS) {
            throw new IndexOutOfBoundsException("sign is not 0 to 28");
        }
    }

    private static void needMany(int many) {
        if (many < 1 || many > MOST_SORTS_MOVED) {
            throw new IllegalArgumentException("many is not 1 to 200");
        }
    }

    private Printer needPrinter(int printer) {
        if (printer < 0 || printer >= printers.length) {
            throw new IndexOutOfBoundsException("there is no such printer");
        }
        Printer found = printers[printer];
        if (found == null) {
            throw new IndexOutOfBoundsException("there is no such printer");
        }
        return found;
    }

    /** The word's letters, good until the next word is asked for. */
    private Word needWord(int word) {
        if (!spelled.spell(word)) {
            throw new IllegalArgumentException("word is no word");
        }
        return spelled;
    }

    private static boolean isLigature(int sign) {
        return sign >= LETTERS;
    }

    private int number(int what) {
        switch (what) {
            case 0:
                return day;
            case 1:
                return metal;
            case 2:
                return coins;
            case 3:
                return stock.inAll();
            case 4:
                return printersThere;
            case 5:
                return everCast;
            case 6:
                return everBroken;
            case 7:
                return everMelted;
            default:
                return 0;
        }
    }

    /** How many sorts of each sign and each wear there are in one place. */
    private static final class Sorts {
        private final int[] numbers = new int[SIGNS * WEARS];

        int at(int sign, int wear) {
            if (sign < 0 || sign >= SIGNS || wear < 0 || wear >= WEARS) {
                return 0;
            }
            return numbers[sign * WEARS + wear];
        }

        void change(int sign, int wear, int by) {
            if (sign < 0 || sign >= SIGNS || wear < 0 || wear >= WEARS) {
                return;
            }
            numbers[sign * WEARS + wear] += by;
        }

        int ofSign(int sign) {
            int sum = 0;
            for (int wear = 0; wear < WEARS; wear++) {
                sum += at(sign, wear);
            }
            return sum;
        }

        int inAll() {
            int sum = 0;
            for (int i = 0; i < numbers.length; i++) {
                sum += numbers[i];
            }
            return sum;
        }

        int wearInAll() {
            int sum = 0;
            for (int i = 0; i < numbers.length; i++) {
                sum += numbers[i] * (i % WEARS);
            }
            return sum;
        }

        /** The greatest wear, or NONE where there are no sorts. */
        int greatestWear() {
            int greatest = NONE;
            for (int i = 0; i < numbers.length; i++) {
                if (numbers[i] > 0) {
                    greatest = Math.max(greatest, i % WEARS);
                }
            }
            return greatest;
        }

        /** The metal that the sorts with this wear or more would give. */
        int metalFrom(int least) {
            int sum = 0;
            for (int sign = 0; sign < SIGNS; sign++) {
                for (int wear = least; wear < WEARS; wear++) {
                    sum += at(sign, wear) * (isLigature(sign) ? 2 : 1);
                }
            }
            return sum;
        }

        /** Takes away the sorts with this wear or more, and returns how many. */
        int dropFrom(int least) {
            int dropped = 0;
            for (int sign = 0; sign < SIGNS; sign++) {
                for (int wear = least; wear < WEARS; wear++) {
                    dropped += empty(sign, wear);
                }
            }
            return dropped;
        }

        int moveLeastWorn(Sorts to, int sign, int many) {
            int added = 0;
            int missing = many;
            for (int wear = 0; wear < WEARS; wear++) {
                int moved = moveAt(to, sign, wear, missing);
                missing -= moved;
                added += moved * wear;
            }
            return added;
        }

        int moveMostWorn(Sorts to, int sign, int many) {
            int added = 0;
            int missing = many;
            for (int wear = WEARS - 1; wear >= 0; wear--) {
                int moved = moveAt(to, sign, wear, missing);
                missing -= moved;
                added += moved * wear;
            }
            return added;
        }

        /** Wears every sort by so much, and returns how many broke. */
        int wearBy(int more) {
            int broken = 0;
            for (int sign = 0; sign < SIGNS; sign++) {
                // From the greatest wear down, so that no sort is met again at its new wear.
                for (int wear = WEARS - 1; wear >= 0; wear--) {
                    int worn = empty(sign, wear);
                    if (wear + more < WEARS) {
                        change(sign, wear + more, worn);
                    } else {
                        broken += worn;
                    }
                }
            }
            return broken;
        }

        long digestOnto(long start) {
            long d = start;
            for (int i = 0; i < numbers.length; i++) {
                d = d * DIGEST_FACTOR + numbers[i];
            }
            return d;
        }

        private int moveAt(Sorts to, int sign, int wear, int most) {
            int moved = Math.min(most, at(sign, wear));
            change(sign, wear, -moved);
            to.change(sign, wear, moved);
            return moved;
        }

        private int empty(int sign, int wear) {
            int gone = at(sign, wear);
            change(sign, wear, -gone);
            return gone;
        }
    }

    private static final class Printer {
        // The document's case: the word is a keyword here.
        private final Sorts tray = new Sorts();
        private final Sorts form = new Sorts();
        private int coins;
        private int owed;
        private int copies;
        private int words;

        Printer(int coins) {
            this.coins = coins;
        }

        int rentOfADay() {
            return (tray.inAll() + form.inAll() + SORTS_FOR_A_COIN - 1) / SORTS_FOR_A_COIN;
        }

        int number(int what) {
            switch (what) {
                case 0:
                    return coins;
                case 1:
                    return owed;
                case 2:
                    return tray.inAll();
                case 3:
                    return form.inAll();
                case 4:
                    return form.wearInAll();
                case 5:
                    return copies;
                case 6:
                    return words;
                default:
                    return 0;
            }
        }

        long digestOnto(long start) {
            long d = start;
            for (int what = 0; what < PRINTER_NUMBERS; what++) {
                d = d * DIGEST_FACTOR + number(what);
            }
            return d;
        }
    }

    /** The letters of a word; they stand at the end of the places, the last letter in the last one. */
    private static final class Word {
        private final int[] letters = new int[LONGEST_WORD];
        private int firstPlace = LONGEST_WORD;

        /** Reads a word from its number; false if it is no word. */
        boolean spell(int number) {
            if (number < 1 || number > GREATEST_WORD) {
                return false;
            }
            int rest = number;
            for (int place = LONGEST_WORD - 1; place >= 0 && rest > 0; place--) {
                int digit = rest % WORD_BASE;
                if (digit == 0) {
                    return false;
                }
                letters[place] = digit - 1;
                firstPlace = place;
                rest /= WORD_BASE;
            }
            return true;
        }

        int firstPlace() {
            return firstPlace;
        }

        /** The letter at a place, or NONE outside the word. */
        int letterAt(int place) {
            if (place < 0 || place < firstPlace || place >= LONGEST_WORD) {
                return NONE;
            }
            return letters[place];
        }

        /** The ligature for the letters at a place and the next one, or NONE. */
        int ligatureAt(int place) {
            if (letterAt(place) != LETTER_F) {
                return NONE;
            }
            switch (letterAt(place + 1)) {
                case LETTER_I:
                    return FI;
                case LETTER_L:
                    return FL;
                case LETTER_F:
                    return FF;
                default:
                    return NONE;
            }
        }

        int howOften(int letter) {
            int often = 0;
            for (int place = firstPlace; place < LONGEST_WORD; place++) {
                if (letterAt(place) == letter) {
                    often++;
                }
            }
            return often;
        }
    }

    /** Tries words on the numbers of a store's sorts, and leaves the store itself as it is. */
    private static final class Setting {
        // More than two words of six letters can take.
        private static final int PLENTY = 100;
        // Each round but the last uses up a letter, or brings a ligature nearer to its end.
        private static final int ROUNDS = 1000;

        private final int[] left = new int[SIGNS];
        private final int[] taken = new int[SIGNS];

        void fillFrom(Sorts store) {
            for (int sign = 0; sign < SIGNS; sign++) {
                left[sign] = store.ofSign(sign);
            }
        }

        void fillWithoutEnd() {
            Arrays.fill(left, PLENTY);
        }

        /** How many sorts of the sign are gone since fillWithoutEnd. */
        int takenOfPlenty(int sign) {
            return sign < 0 || sign >= SIGNS ? 0 : PLENTY - left[sign];
        }

        /** How many sorts of the sign the last word took. */
        int taken(int sign) {
            return sign < 0 || sign >= SIGNS ? 0 : taken[sign];
        }

        /** Sets a word from what is left; returns how many sorts it takes, or NONE if one lacks. */
        int lay(Word word) {
            Arrays.fill(taken, 0);
            int sorts = 0;
            int place = word.firstPlace();
            while (place < LONGEST_WORD) {
                int sign = signFor(word, place);
                if (sign < 0 || sign >= SIGNS || left[sign] < 1) {
                    return NONE;
                }
                left[sign]--;
                taken[sign]++;
                sorts++;
                place += isLigature(sign) ? 2 : 1;
            }
            return sorts;
        }

        /** Sets a word until a sort lacks; returns how many times it could be set. */
        int layTillOneLacks(Word word) {
            int times = 0;
            for (int round = 0; round < ROUNDS; round++) {
                if (lay(word) < 1) {
                    return times;
                }
                times += 1 + layTheSameAgain();
            }
            return times;
        }

        /**
         * Takes what the last word took as often as there is so much left; returns how often. The
         * word would be set with just these sorts each time: a ligature that it had to do without
         * is at its end already.
         */
        private int layTheSameAgain() {
            int again = Integer.MAX_VALUE;
            for (int sign = 0; sign < SIGNS; sign++) {
                if (taken[sign] > 0) {
                    again = Math.min(again, left[sign] / taken[sign]);
                }
            }
            for (int sign = 0; sign < SIGNS; sign++) {
                left[sign] -= again * taken[sign];
            }
            return again;
        }

        private int signFor(Word word, int place) {
            int ligature = word.ligatureAt(place);
            if (ligature >= 0 && ligature < SIGNS && left[ligature] > 0) {
                return ligature;
            }
            return word.letterAt(place);
        }
    }
}

/** What the document says before the promises, and promise 1: a new object. */
public final class TermsTest {
    public static void main(String[] args) {
        signs();
        wears();
        lengthsOfWords();
        digitsOfWords();
        everyNumberIsAWordOrNone();
        ligaturesAreTakenFirst();
        aLigatureThatIsNotLeft();
        aLigatureNeedsBothLetters();
        theMostWornIsTaken();
        aSortLacks();
        metalOfTheFoundry();
        firstOfTheFoundry();
        firstOfAPrinter();
        atMostSixPrinters();
        roundedTowards0();
        daysFrom0();
        all512Calls();
        newObject();
        objectsShareNothing();
        Checks.end("TermsTest", 1);
    }

    private static void signs() {
        Checks.holds(0, "There are 29, 0 to 28: 0 to 25 are the letters a to z, 26 is the ligature fi, 27 fl, 28 ff.");
        for (char letter = 'a'; letter <= 'z'; letter++) {
            String text = String.valueOf(letter);
            TypeFoundry f = Foundries.caseOf(text);
            Checks.due("the sort of " + text, 1, () -> f.sorts(0, text.charAt(0) - 'a', 0));
            Checks.due("set " + text, 1, () -> f.set(0, Checks.word(text)));
        }
        String[] ligatures = {"fi", "fl", "ff"};
        for (int sign = 26; sign <= 28; sign++) {
            TypeFoundry f = Foundries.caseOf("", sign == 26 ? 1 : 0, sign == 27 ? 1 : 0, sign == 28 ? 1 : 0);
            for (int other = 26; other <= 28; other++) {
                int word = Checks.word(ligatures[other - 26]);
                Checks.due(ligatures[other - 26] + " with sign " + sign, other == sign ? 1 : -1, () -> f.takes(0, word));
            }
        }
    }

    private static void wears() {
        Checks.holds(0, "A sort of a sign has a wear, 0 (new) to 9.");
        for (int wear = 0; wear <= 9; wear++) {
            int w = wear;
            TypeFoundry f = Foundries.caseOf("");
            Foundries.stock(f, 0, 3, 1, wear);
            Checks.due("wear " + w, 1, () -> f.sorts(-1, 3, w));
        }
        TypeFoundry worst = Foundries.caseOf("");
        Foundries.put(worst, 0, 3, 1, 9);
        worst.set(0, Checks.word("d"));
        Checks.due("there is no wear 10", 1, () -> worst.print(0, 50));
    }

    private static void lengthsOfWords() {
        Checks.holds(0, "A word has 1 to 6 letters.");
        TypeFoundry f = Foundries.caseOf("aaaaaaazzzzzzz");
        String[] words = {"a", "z", "aa", "zz", "aaa", "zzzz", "aaaaa", "aaaaaa", "zzzzzz"};
        for (String word : words) {
            Checks.due(word, word.length(), () -> f.takes(0, Checks.word(word)));
        }
        Checks.due("no letter", Checks.BAD_ARGUMENT, () -> f.takes(0, 0));
        Checks.due("7 letters, the least", Checks.BAD_ARGUMENT, () -> f.takes(0, Checks.word("aaaaaaa")));
        Checks.due("7 digits, the least", Checks.BAD_ARGUMENT, () -> f.takes(0, 387420489));
        Checks.due("7 digits, the greatest", Checks.BAD_ARGUMENT, () -> f.takes(0, Integer.MAX_VALUE));
    }

    private static void digitsOfWords() {
        Checks.holds(0, "It is told as a number: the letters as digits 1 (a) to 26 (z) of the base 27, the first one highest.");
        TypeFoundry f = Foundries.caseOf("af", 1, 0, 0);
        Checks.due("a is 1", 1, () -> f.takes(0, 1));
        Checks.due("z is 26", 25, () -> f.lacks(0, 26));
        Checks.due("27 ends with a digit 0", Checks.BAD_ARGUMENT, () -> f.takes(0, 27));
        Checks.due("aa is 28", -1, () -> f.takes(0, 28));
        Checks.due("fi is 6 * 27 + 9", 1, () -> f.takes(0, 171));
        Checks.due("if is 9 * 27 + 6", -1, () -> f.takes(0, 249));
        Checks.due("zzzzzz is 27 to the 6th, less 1", 25, () -> f.lacks(0, 387420488));
    }

    private static void everyNumberIsAWordOrNone() {
        Checks.holds(0, "It is told as a number: the letters as digits 1 (a) to 26 (z) of the base 27, the first one highest.");
        int[] middles = {0, 19683, 19683 * 26, 531441, 14348907, 14348907 * 26, 387420489, 402321277, 2 * 387420489};
        for (int middle : middles) {
            TypeFoundry f = new TypeFoundry();
            for (int number = middle - 200; number < middle + 200; number++) {
                int n = number;
                Checks.due(n + " is a word", isWord(n), () -> Checks.answerOf(() -> f.saves(n, 1)) != Checks.BAD_ARGUMENT);
            }
        }
    }

    private static boolean isWord(int number) {
        String digits = Integer.toString(number, 27);
        return number > 0 && digits.length() <= 6 && digits.indexOf('0') == -1;
    }

    private static void ligaturesAreTakenFirst() {
        Checks.holds(0, "if this one and the next one are f i, f l or f f, and there is a sort of this ligature left, it is taken for both");
        String[] words = {"fi", "fl", "ff"};
        for (int sign = 26; sign <= 28; sign++) {
            int s = sign;
            TypeFoundry f = Foundries.caseOf("ffil", 1, 1, 1);
            Checks.due(words[s - 26], 1, () -> f.set(0, Checks.word(words[s - 26])));
            Checks.due("the ligature is taken", 0, () -> f.sorts(0, s, 0));
            Checks.due("and nothing else", 6, () -> f.printer(0, 2));
        }
        TypeFoundry fromTheLeft = Foundries.caseOf("ffil", 1, 1, 1);
        Checks.due("ffi is ff i, from the left", 2, () -> fromTheLeft.set(0, Checks.word("ffi")));
        Checks.due("fi is left", 1, () -> fromTheLeft.sorts(0, Foundries.FI, 0));
        Checks.due("ff is taken", 0, () -> fromTheLeft.sorts(0, Foundries.FF, 0));
        TypeFoundry odd = Foundries.caseOf("f", 1, 0, 1);
        Checks.due("fffi is ff fi", 2, () -> odd.set(0, Checks.word("fffi")));
        TypeFoundry noWayBack = Foundries.caseOf("f", 1, 0, 1);
        Checks.due("ffi is ff, though f and fi are there and i lacks", -1, () -> noWayBack.takes(0, Checks.word("ffi")));
        TypeFoundry inTheMiddle = Foundries.caseOf("oce", 1, 0, 1);
        Checks.due("offifi lacks i", -1, () -> inTheMiddle.takes(0, Checks.word("offifi")));
        Checks.due("off is o ff", 2, () -> inTheMiddle.takes(0, Checks.word("off")));
    }

    private static void aLigatureThatIsNotLeft() {
        Checks.holds(0, "there is a sort of this ligature left, it is taken for both; otherwise a sort of the letter.");
        TypeFoundry f = Foundries.caseOf("fffiiil", 1, 1, 0);
        Checks.due("fififi is fi f i f i", 5, () -> f.takes(0, Checks.word("fififi")));
        Checks.due("ffi without ff is f fi", 2, () -> f.takes(0, Checks.word("ffi")));
        Checks.due("ffl without ff is f fl", 2, () -> f.takes(0, Checks.word("ffl")));
        Checks.due("ff without ff is f f", 2, () -> f.takes(0, Checks.word("ff")));
        f.set(0, Checks.word("fi"));
        Checks.due("one in the form is not left", 2, () -> f.takes(0, Checks.word("fi")));
    }

    private static void aLigatureNeedsBothLetters() {
        Checks.holds(0, "if this one and the next one are f i, f l or f f");
        TypeFoundry f = Foundries.caseOf("filaaa", 1, 1, 1);
        String[] words = {"if", "lf", "af", "fa", "f", "i", "il", "faf", "lif"};
        for (String word : words) {
            int due = word.equals("faf") ? -1 : word.length();
            Checks.due(word + " has no ligature", due, () -> f.takes(0, Checks.word(word)));
        }
        Checks.due("the f of a pair is not the f of the next one", 2, () -> f.takes(0, Checks.word("fff")));
        Checks.due("six letters to the end: aaf i, no more", 3, () -> f.takes(0, Checks.word("aafi")));
        TypeFoundry atTheEnd = Foundries.caseOf("aaaa", 1, 0, 0);
        Checks.due("a ligature of the last two", 5, () -> atTheEnd.takes(0, Checks.word("aaaafi")));
        Checks.due("the last f is alone", -1, () -> atTheEnd.takes(0, Checks.word("aaaaf")));
    }

    private static void theMostWornIsTaken() {
        Checks.holds(0, "Of the sorts of a sign that are left, one with the greatest wear is taken.");
        int[] signs = {0, 25, 26, 28};
        String[] words = {"a", "z", "fi", "ff"};
        int[] wears = {7, 7, 7, 7, 3, 3, 0, 0, 0};
        for (int i = 0; i < signs.length; i++) {
            TypeFoundry f = Foundries.caseOfThreeWears(signs[i]);
            int inTheForm = 0;
            for (int wear : wears) {
                f.set(0, Checks.word(words[i]));
                inTheForm += wear;
                Checks.due("wear in the form", inTheForm, () -> f.printer(0, 4));
            }
        }
        TypeFoundry ends = Foundries.caseOf("");
        Foundries.stock(ends, 0, 0, 1, 9);
        Foundries.stock(ends, 0, 0, 1, 8);
        ends.rent(0, 0, 2);
        ends.set(0, 1);
        Checks.due("9 before 8", 9, () -> ends.printer(0, 4));
    }

    private static void aSortLacks() {
        Checks.holds(0, "The word cannot be set, if a sort lacks.");
        TypeFoundry f = Foundries.caseOf("abcde");
        Checks.due("none lacks", 5, () -> f.takes(0, Checks.word("edcba")));
        Checks.due("the last one lacks", -1, () -> f.takes(0, Checks.word("abcdez")));
        Checks.due("the first one lacks", -1, () -> f.takes(0, Checks.word("zabcde")));
        Checks.due("a second one lacks", -1, () -> f.takes(0, Checks.word("abcdea")));
        TypeFoundry halves = Foundries.caseOf("f", 0, 1, 1);
        Checks.due("fi, for which just f is there", -1, () -> halves.takes(0, Checks.word("fi")));
    }

    private static void metalOfTheFoundry() {
        Checks.holds(0, "It has metal, 0 to 9999 (500, at first)");
        Checks.due("at first", 500, () -> new TypeFoundry().count(1));
        Checks.due("the least", 0, () -> Foundries.withMetal(0).count(1));
        Checks.due("the most", 9999, () -> Foundries.withMetal(9999).count(1));
    }

    private static void firstOfTheFoundry() {
        Checks.holds(0, "a stock of sorts (none, at first), and coins (0, at first)");
        Checks.due("stock", 0, () -> new TypeFoundry().count(3));
        Checks.due("coins", 0, () -> new TypeFoundry().count(2));
    }

    private static void firstOfAPrinter() {
        Checks.holds(0, "each has coins, 0 or more, a case of sorts (none, at first), and a form");
        for (int coins : new int[] {0, 1, 5000}) {
            TypeFoundry f = new TypeFoundry();
            f.come(coins);
            Checks.due("coins", coins, () -> f.printer(0, 0));
            for (int what = 1; what <= 6; what++) {
                int w = what;
                Checks.due("printer(0, " + w + ")", 0, () -> f.printer(0, w));
            }
            f.pass(100);
            f.pay(0);
            Checks.due("never less than 0", coins, () -> f.printer(0, 0));
        }
    }

    private static void atMostSixPrinters() {
        Checks.holds(0, "There are at most 6, numbered from 0 in the order of their coming");
        TypeFoundry f = new TypeFoundry();
        for (int i = 0; i < 6; i++) {
            int number = i;
            Checks.due("not there yet", Checks.BAD_INDEX, () -> f.printer(number, 0));
            Checks.due("come", number, () -> f.come(10 * number));
        }
        for (int i = 0; i < 6; i++) {
            int number = i;
            Checks.due("coins of " + i, 10 * i, () -> f.printer(number, 0));
        }
        Checks.due("a seventh", Checks.BAD_STATE, () -> f.come(60));
        Checks.due("there are 6", 6, () -> f.count(4));
    }

    private static void roundedTowards0() {
        Checks.holds(0, "All numbers are whole, and / is cut towards 0.");
        TypeFoundry f = Foundries.caseOf("aaaaaaaaaaa");
        Checks.due("(11 and 9) / 10 is 2", 2, () -> f.pass(1));
        f.giveBack(0, 0, 1);
        Checks.due("(10 and 9) / 10 is 1", 3, () -> f.pass(1));
    }

    private static void daysFrom0() {
        Checks.holds(0, "Days are told from 0.");
        TypeFoundry f = new TypeFoundry();
        Checks.due("the first day", 0, () -> f.count(0));
        f.pass(1);
        Checks.due("the next day", 1, () -> f.count(0));
    }

    private static void all512Calls() {
        Checks.holds(0, "An object is used for at most 512 calls after it has been made");
        TypeFoundry f = new TypeFoundry();
        f.come(5000);
        f.cast(0, 200);
        f.rent(0, 0, 200);
        for (int call = 4; call <= 510; call++) {
            f.pass(100);
        }
        Checks.due("call 511", 507 * 100 * 20 + 2000, () -> f.pass(100));
        Checks.due("call 512", 5000, () -> f.pay(0));
    }

    private static void newObject() {
        Checks.holds(1, "Creates a foundry without sorts and printers, on the day 0.");
        TypeFoundry f = new TypeFoundry();
        int[] counts = {0, 500, 0, 0, 0, 0, 0, 0};
        for (int what = 0; what < counts.length; what++) {
            int asked = what;
            Checks.due("count(" + what + ")", counts[what], () -> f.count(asked));
        }
        for (int sign = 0; sign < 29; sign++) {
            for (int wear = 0; wear < 10; wear++) {
                int s = sign;
                int w = wear;
                Checks.due("sorts(-1, " + s + ", " + w + ")", 0, () -> f.sorts(-1, s, w));
            }
        }
        Checks.due("no printer", Checks.BAD_INDEX, () -> f.printer(0, 0));
        Checks.due("nobody owes", 0, () -> f.pass(1));
    }

    private static void objectsShareNothing() {
        Checks.holds(1, "Creates a foundry without sorts and printers, on the day 0.");
        String fresh = Calls.allOf(new TypeFoundry());
        Foundries.busy();
        Checks.due("an object made later", fresh, () -> Calls.allOf(new TypeFoundry()));
    }
}

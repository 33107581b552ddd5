import java.util.Arrays;

/** The calls of a foundry, told by the number of their promise; so a foundry and a plain one can do the same. */
interface Calls {
    String[] NAMES = {"", "TypeFoundry", "cast", "melt", "buy", "come", "rent", "giveBack", "pay", "set", "print", "distribute",
        "pass", "sorts", "printer", "count", "takes", "lacks", "bears", "saves", "times", "mean", "digest"};

    Object answer(int promise, int a, int b, int c);

    /** What a call answers, or the class of what it throws. */
    static Object on(Calls calls, int... row) {
        int[] full = Arrays.copyOf(row, 4);
        return Checks.answerOf(() -> calls.answer(full[0], full[1], full[2], full[3]));
    }

    static String told(int... row) {
        String arguments = Arrays.toString(Arrays.copyOfRange(row, 1, row.length));
        return NAMES[row[0]] + "(" + arguments.substring(1, arguments.length() - 1) + ")";
    }

    static String allOf(TypeFoundry f) {
        return allOf(of(f));
    }

    /** All that a foundry can tell. Puts the forms back, for which sorts are in them is told by no call. */
    static String allOf(Calls calls) {
        StringBuilder all = new StringBuilder();
        all.append(on(calls, 22)).append(' ').append(on(calls, 21));
        int printers = (Integer) on(calls, 15, 4);
        for (int i = 0; i < printers; i++) {
            all.append(' ').append(on(calls, 18, i)).append(' ').append(on(calls, 11, i));
        }
        return all.append(' ').append(on(calls, 22)).toString();
    }

    static Calls of(TypeFoundry f) {
        return (promise, a, b, c) -> switch (promise) {
            case 2 -> f.cast(a, b);
            case 3 -> f.melt(a);
            case 4 -> f.buy(a);
            case 5 -> f.come(a);
            case 6 -> f.rent(a, b, c);
            case 7 -> f.giveBack(a, b, c);
            case 8 -> f.pay(a);
            case 9 -> f.set(a, b);
            case 10 -> f.print(a, b);
            case 11 -> f.distribute(a);
            case 12 -> f.pass(a);
            case 13 -> f.sorts(a, b, c);
            case 14 -> f.printer(a, b);
            case 15 -> f.count(a);
            case 16 -> f.takes(a, b);
            case 17 -> f.lacks(a, b);
            case 18 -> f.bears(a);
            case 19 -> f.saves(a, b);
            case 20 -> f.times(a, b);
            case 21 -> f.mean();
            case 22 -> f.digest();
            default -> throw new UnsupportedOperationException();
        };
    }

    static Calls of(PlainFoundry f) {
        return (promise, a, b, c) -> switch (promise) {
            case 2 -> f.cast(a, b);
            case 3 -> f.melt(a);
            case 4 -> f.buy(a);
            case 5 -> f.come(a);
            case 6 -> f.rent(a, b, c);
            case 7 -> f.giveBack(a, b, c);
            case 8 -> f.pay(a);
            case 9 -> f.set(a, b);
            case 10 -> f.print(a, b);
            case 11 -> f.distribute(a);
            case 12 -> f.pass(a);
            case 13 -> f.sorts(a, b, c);
            case 14 -> f.printer(a, b);
            case 15 -> f.count(a);
            case 16 -> f.takes(a, b);
            case 17 -> f.lacks(a, b);
            case 18 -> f.bears(a);
            case 19 -> f.saves(a, b);
            case 20 -> f.times(a, b);
            case 21 -> f.mean();
            case 22 -> f.digest();
            default -> throw new UnsupportedOperationException();
        };
    }
}

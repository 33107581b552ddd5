import java.util.Arrays;
import java.util.function.Supplier;

/**
 * Each call with each choice of arguments at, just inside and just outside their bounds, in several
 * states; the answer and all that is there then are compared with PlainFoundry.
 */
public final class EdgesTest {
    private static final int LEAST = Integer.MIN_VALUE;
    private static final int MOST = Integer.MAX_VALUE;
    private static final int AAAAAA = Checks.word("aaaaaa");
    private static final int[] PRINTERS = {LEAST, -2, -1, 0, 1, 2, 5, 6, MOST};
    private static final int[] SIGNS = {LEAST, -1, 0, 5, 25, 26, 28, 29, MOST};
    private static final int[] MANY = {LEAST, -1, 0, 1, 2, 3, 199, 200, 201, MOST};
    private static final int[] WEARS = {LEAST, -1, 0, 1, 2, 8, 9, 10, MOST};
    private static final int[] METALS = {LEAST, 0, 1, 9, 10, 1999, 2000, 2001, MOST};
    private static final int[] COINS = {LEAST, -1, 0, 1, 4999, 5000, 5001, MOST};
    private static final int[] COPIES = {LEAST, -1, 0, 1, 49, 50, 99, 100, 399, 400, 449, 450, 499, 500, 999, 1000, 1001, MOST};
    private static final int[] DAYS = {LEAST, -1, 0, 1, 2, 99, 100, 101, MOST};
    private static final int[] WHATS = {LEAST, -1, 0, 1, 2, 3, 4, 5, 6, 7, 8, MOST};
    private static final int[] WORDS = {LEAST, -1, 0, 1, 6, 26, 27, 28, 54, 729, 730, Checks.word("fi"), Checks.word("ff"),
        Checks.word("fl"), Checks.word("ffi"), Checks.word("fffff"), Checks.word("fififi"), AAAAAA, 14348907,
        387420488, 387420489, MOST};
    /** By promise, what stands for each parameter of the call. */
    private static final int[][][] ARGUMENTS = {{}, {}, {SIGNS, MANY}, {WEARS}, {METALS}, {COINS}, {PRINTERS, SIGNS, MANY},
        {PRINTERS, SIGNS, MANY}, {PRINTERS}, {PRINTERS, WORDS}, {PRINTERS, COPIES}, {PRINTERS}, {DAYS},
        {PRINTERS, SIGNS, WEARS}, {PRINTERS, WHATS}, {WHATS}, {PRINTERS, WORDS}, {PRINTERS, WORDS}, {PRINTERS}, {WORDS, WORDS},
        {PRINTERS, WORDS}, {}, {}};

    private static final int[][] NEW = {};
    /** Two printers; worn and new sorts in the stock, a case and a form. */
    private static final int[][] IN_USE = {{5, 3}, {5, 40}, {2, 0, 3}, {6, 0, 0, 2}, {9, 0, 28}, {10, 0, 450}, {11, 0}, {7, 0, 0, 1},
        {2, 28, 3}, {6, 0, 28, 3}, {9, 0, Checks.word("ffff")}, {10, 0, 100}, {11, 0}, {7, 0, 28, 1}, {2, 5, 9}, {6, 0, 5, 4},
        {2, 26, 2}, {6, 0, 26, 2}, {2, 8, 3}, {6, 0, 8, 3}, {6, 1, 5, 2}, {9, 0, Checks.word("fi")}, {10, 0, 60}, {12, 7}};
    /** Six printers, a form of 59 sorts with one of wear 1, no metal, much that is owed. */
    private static final int[][] SHORT = {{5, 0}, {5, 1}, {5, 2}, {5, 3}, {5, 4}, {5, 5000}, {2, 0, 200}, {6, 0, 0, 100},
        {9, 0, 1}, {10, 0, 50}, {9, 0, AAAAAA}, {9, 0, AAAAAA}, {9, 0, AAAAAA}, {9, 0, AAAAAA}, {9, 0, AAAAAA},
        {9, 0, AAAAAA}, {9, 0, AAAAAA}, {9, 0, AAAAAA}, {9, 0, AAAAAA}, {9, 0, Checks.word("aaaa")}, {2, 5, 35},
        {6, 0, 5, 5}, {6, 5, 5, 2}, {9, 5, 6}, {2, 28, 10}, {6, 0, 28, 2}, {12, 100}};
    /** Two printers; 999 f and one worn a and z in the stock, 9998 of metal, a form with wear 9. */
    private static final int[][] FULL = {{5, 0}, {5, 10}, {4, 2000}, {2, 0, 2}, {6, 0, 0, 2}, {9, 0, 28}, {10, 0, 50}, {11, 0},
        {7, 0, 0, 1}, {9, 0, 1}, {10, 0, 400}, {2, 25, 1}, {6, 1, 25, 1}, {9, 1, 26}, {10, 1, 100}, {11, 1}, {7, 1, 25, 1},
        {2, 5, 200}, {2, 5, 200}, {2, 5, 200}, {2, 5, 200}, {2, 5, 199}, {4, 2000}, {4, 2000}, {4, 2000}, {4, 2000}, {4, 1502}};

    public static void main(String[] args) {
        int[][][] states = {NEW, IN_USE, SHORT, FULL};
        for (int[][] state : states) {
            for (int promise = 2; promise <= 22; promise++) {
                Checks.holds(promise, "If several exceptions apply, the one that is named first is thrown.");
                sweep(state, new int[] {promise}, 0);
            }
        }
        Checks.end("EdgesTest");
    }

    /** Takes each value for the next parameter, and does the calls when none is left. */
    private static void sweep(int[][] state, int[] row, int parameter) {
        int[][] arguments = ARGUMENTS[row[0]];
        if (parameter == arguments.length) {
            compare(state, row);
            return;
        }
        for (int value : arguments[parameter]) {
            int[] longer = Arrays.copyOf(row, row.length + 1);
            longer[row.length] = value;
            sweep(state, longer, parameter + 1);
        }
    }

    private static void compare(int[][] state, int[] row) {
        Calls plain = after(state, () -> Calls.of(new PlainFoundry()));
        Calls mine = after(state, () -> Calls.of(new TypeFoundry()));
        Object due = Calls.on(plain, row);
        Checks.due(Calls.told(row), due, () -> Calls.on(mine, row));
        String then = Calls.allOf(mine);
        Checks.due(Calls.told(row) + ", then the whole foundry", Calls.allOf(plain), () -> then);
        if (due instanceof Class) {
            Calls untouched = after(state, () -> Calls.of(new TypeFoundry()));
            Checks.due(Calls.told(row) + ", which changes nothing", Calls.allOf(untouched), () -> then);
        }
    }

    private static Calls after(int[][] state, Supplier<Calls> maker) {
        Calls calls = maker.get();
        for (int[] row : state) {
            Object answer = Calls.on(calls, row);
            if (answer instanceof Class) {
                throw new IllegalStateException(Calls.told(row) + " is refused on the way");
            }
        }
        return calls;
    }
}

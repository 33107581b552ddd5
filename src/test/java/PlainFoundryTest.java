import java.util.Random;

/** Long runs of calls, each answer compared with what PlainFoundry answers. Always the same runs. */
public final class PlainFoundryTest {
    private static final int RUNS = 700;
    private static final int CALLS = 512;
    private static final String LETTERS = "ffffffiiillaeoz";
    private static final String FEW_LETTERS = "ffffiil";
    private static final int[] FEW_SIGNS = {5, 8, 11, 26, 27, 28};
    /** The promises to choose from: those that fill a foundry more often than the others. */
    private static final int[] PROMISES = {2, 2, 3, 4, 5, 6, 6, 6, 7, 8, 9, 9, 9, 9, 10, 10, 11, 12, 13, 14, 15, 16, 17, 18, 19, 20};

    private final Random random;
    private final Calls mine = Calls.of(new TypeFoundry());
    private final Calls plain = Calls.of(new PlainFoundry());
    // In a run with few signs they run short less often, so that more is set, worn and broken.
    private final boolean fewSigns;

    private PlainFoundryTest(int run) {
        random = new Random(run);
        fewSigns = run % 3 != 0;
    }

    public static void main(String[] args) {
        for (int run = 0; run < RUNS; run++) {
            new PlainFoundryTest(run).run(run);
        }
        Checks.end("PlainFoundryTest");
    }

    private void run(int run) {
        for (int call = 1; call <= CALLS; call++) {
            int[] row = row(call);
            Checks.holds(row[0], "An object is used for at most 512 calls after it has been made");
            Checks.due("run " + run + ", call " + call + ": " + Calls.told(row), Calls.on(plain, row), () -> Calls.on(mine, row));
        }
    }

    /** The call to do; the digest and the mean now and then, and at the end. */
    private int[] row(int call) {
        if (call % 4 == 0) {
            return new int[] {call % 32 == 4 ? 21 : 22};
        }
        int promise = PROMISES[random.nextInt(PROMISES.length)];
        return switch (promise) {
            case 2 -> new int[] {2, sign(), many()};
            case 3 -> new int[] {3, random.nextInt(12) - 1};
            case 4 -> new int[] {4, random.nextInt(2004) - 1};
            case 5 -> new int[] {5, random.nextInt(4) == 0 ? random.nextInt(5010) - 4 : random.nextInt(40)};
            case 6, 7 -> new int[] {promise, printer(), sign(), many()};
            case 8, 11, 18 -> new int[] {promise, printer()};
            case 9, 16, 17, 20 -> new int[] {promise, printer(), word()};
            case 10 -> new int[] {10, printer(), random.nextInt(3) == 0 ? random.nextInt(1010) - 4 : random.nextInt(200)};
            case 12 -> new int[] {12, random.nextInt(103) - 1};
            case 13 -> new int[] {13, printer(), sign(), random.nextInt(12) - 1};
            case 14 -> new int[] {14, printer(), random.nextInt(9) - 1};
            case 15 -> new int[] {15, random.nextInt(10) - 1};
            default -> new int[] {19, word(), word()};
        };
    }

    private int printer() {
        int there = (Integer) Calls.on(plain, 15, 4);
        return random.nextInt(20) == 0 ? random.nextInt(10) - 2 : random.nextInt(Math.max(1, there));
    }

    private int sign() {
        if (random.nextInt(30) == 0) {
            return random.nextInt(34) - 2;
        }
        return fewSigns ? FEW_SIGNS[random.nextInt(FEW_SIGNS.length)] : random.nextInt(29);
    }

    private int many() {
        return random.nextInt(20) == 0 ? random.nextInt(206) - 2 : 1 + random.nextInt(random.nextInt(5) == 0 ? 40 : 8);
    }

    private int word() {
        if (random.nextInt(30) == 0) {
            return random.nextInt();
        }
        String letters = fewSigns ? FEW_LETTERS : LETTERS;
        StringBuilder word = new StringBuilder();
        int length = 1 + random.nextInt(6);
        for (int i = 0; i < length; i++) {
            word.append(letters.charAt(random.nextInt(letters.length())));
        }
        return Checks.word(word.toString());
    }
}

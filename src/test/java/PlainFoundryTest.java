import java.util.Random;

/** Long runs of calls, each answer compared with what PlainFoundry answers. Always the same runs. */
public final class PlainFoundryTest {
    private static final int RUNS = 300;
    private static final int CALLS = 512;
    private static final String LETTERS = "ffffffiiillaeoz";

    private final Random random;
    private final TypeFoundry foundry = new TypeFoundry();
    private final PlainFoundry plain = new PlainFoundry();
    // In a run with few signs they run short less often, so that more is set, worn and broken.
    private final boolean fewSigns;

    private PlainFoundryTest(int run) {
        random = new Random(run);
        fewSigns = run % 3 != 0;
    }

    public static void main(String[] args) {
        for (int run = 0; run < RUNS; run++) {
            new PlainFoundryTest(run).run(run);
        }
        Checks.end("PlainFoundryTest");
    }

    private void run(int run) {
        for (int call = 0; call < CALLS; call++) {
            String where = "run " + run + ", call " + call + ": ";
            step(where);
            Checks.due(where + "digest", plain.digest(), foundry::digest);
            Checks.due(where + "mean", plain.mean(), foundry::mean);
        }
    }

    private void step(String where) {
        int p = random.nextInt(20) == 0 ? random.nextInt(10) - 2 : random.nextInt(Math.max(1, plain.count(4)));
        int s = sign();
        int w = word();
        int many = many();
        switch (random.nextInt(24)) {
            case 0, 1 -> same(where + "cast " + s + " " + many, () -> plain.cast(s, many), () -> foundry.cast(s, many));
            case 2 -> {
                int wear = random.nextInt(12) - 1;
                same(where + "melt " + wear, () -> plain.melt(wear), () -> foundry.melt(wear));
            }
            case 3 -> {
                int metal = random.nextInt(2004) - 1;
                same(where + "buy " + metal, () -> plain.buy(metal), () -> foundry.buy(metal));
            }
            case 4 -> {
                int coins = random.nextInt(4) == 0 ? random.nextInt(5010) - 4 : random.nextInt(40);
                same(where + "come " + coins, () -> plain.come(coins), () -> foundry.come(coins));
            }
            case 5, 6, 7 -> same(where + "rent " + p + " " + s + " " + many, () -> plain.rent(p, s, many), () -> foundry.rent(p, s, many));
            case 8 -> same(where + "giveBack " + p + " " + s + " " + many, () -> plain.giveBack(p, s, many), () -> foundry.giveBack(p, s, many));
            case 9 -> same(where + "pay " + p, () -> plain.pay(p), () -> foundry.pay(p));
            case 10, 11, 12, 13 -> same(where + "set " + p + " " + w, () -> plain.set(p, w), () -> foundry.set(p, w));
            case 14, 15 -> {
                int copies = random.nextInt(3) == 0 ? random.nextInt(1010) - 4 : random.nextInt(200);
                same(where + "print " + p + " " + copies, () -> plain.print(p, copies), () -> foundry.print(p, copies));
            }
            case 16 -> same(where + "distribute " + p, () -> plain.distribute(p), () -> foundry.distribute(p));
            case 17 -> {
                int days = random.nextInt(103) - 1;
                same(where + "pass " + days, () -> plain.pass(days), () -> foundry.pass(days));
            }
            case 18 -> {
                int wear = random.nextInt(12) - 1;
                same(where + "sorts " + p + " " + s + " " + wear, () -> plain.sorts(p, s, wear), () -> foundry.sorts(p, s, wear));
                int what = random.nextInt(10) - 1;
                same(where + "printer " + p + " " + what, () -> plain.printer(p, what), () -> foundry.printer(p, what));
                same(where + "count " + what, () -> plain.count(what), () -> foundry.count(what));
            }
            case 19 -> same(where + "takes " + p + " " + w, () -> plain.takes(p, w), () -> foundry.takes(p, w));
            case 20 -> same(where + "lacks " + p + " " + w, () -> plain.lacks(p, w), () -> foundry.lacks(p, w));
            case 21 -> same(where + "bears " + p, () -> plain.bears(p), () -> foundry.bears(p));
            case 22 -> {
                int other = word();
                same(where + "saves " + w + " " + other, () -> plain.saves(w, other), () -> foundry.saves(w, other));
            }
            default -> same(where + "times " + p + " " + w, () -> plain.times(p, w), () -> foundry.times(p, w));
        }
    }

    private static void same(String what, Checks.Call due, Checks.Call got) {
        Checks.due(what, Checks.answerOf(due), got);
    }

    private int sign() {
        if (random.nextInt(30) == 0) {
            return random.nextInt(34) - 2;
        }
        int[] few = {5, 8, 11, 26, 27, 28};
        return fewSigns ? few[random.nextInt(few.length)] : random.nextInt(29);
    }

    private int many() {
        return random.nextInt(20) == 0 ? random.nextInt(206) - 2 : 1 + random.nextInt(random.nextInt(5) == 0 ? 40 : 8);
    }

    private int word() {
        if (random.nextInt(30) == 0) {
            return random.nextInt();
        }
        String letters = fewSigns ? "ffffiil" : LETTERS;
        StringBuilder word = new StringBuilder();
        int length = 1 + random.nextInt(6);
        for (int i = 0; i < length; i++) {
            word.append(letters.charAt(random.nextInt(letters.length())));
        }
        return Checks.word(word.toString());
    }
}

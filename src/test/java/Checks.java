/** Counts the answers that are not the due ones; what every test here is written with. */
final class Checks {
    interface Call {
        Object answer();
    }

    static final Class<?> BAD_INDEX = IndexOutOfBoundsException.class;
    static final Class<?> BAD_ARGUMENT = IllegalArgumentException.class;
    static final Class<?> BAD_STATE = IllegalStateException.class;

    private static int made = 0;
    private static int wrong = 0;

    private Checks() {
    }

    static void due(String what, Object want, Call call) {
        made++;
        Object got = answerOf(call);
        if (!want.equals(got)) {
            wrong++;
            System.out.println(what + " answered " + got + ", due is " + want);
        }
    }

    /** The call throws just this exception, and leaves the foundry as it was. */
    static void refused(String what, Class<?> want, TypeFoundry foundry, Call call) {
        long before = foundry.digest();
        int[] forms = bearsOf(foundry);
        due(what, want, call);
        due(what + ", then digest", before, foundry::digest);
        due(what + ", then the forms", java.util.Arrays.toString(forms), () -> java.util.Arrays.toString(bearsOf(foundry)));
    }

    /** What the call answers, or the class of the exception that it throws. */
    static Object answerOf(Call call) {
        try {
            return call.answer();
        } catch (RuntimeException thrown) {
            return thrown.getClass();
        }
    }

    private static int[] bearsOf(TypeFoundry foundry) {
        int[] bears = new int[foundry.count(4)];
        for (int i = 0; i < bears.length; i++) {
            bears[i] = foundry.bears(i);
        }
        return bears;
    }

    /** The number of a word that is told as text. */
    static int word(String letters) {
        int number = 0;
        for (int i = 0; i < letters.length(); i++) {
            number = number * 27 + (letters.charAt(i) - 'a' + 1);
        }
        return number;
    }

    static int sign(char letter) {
        return letter - 'a';
    }

    static void end(String name) {
        System.out.println(name + ": " + made + " checks, " + wrong + " wrong");
        if (wrong != 0 || made == 0) {
            System.exit(1);
        }
    }
}

import java.util.function.Function;
import java.util.function.Supplier;

/** What every test here is written with: counts the answers that are not the due ones. */
final class Checks {
    static final Class<?> BAD_INDEX = IndexOutOfBoundsException.class;
    static final Class<?> BAD_ARGUMENT = IllegalArgumentException.class;
    static final Class<?> BAD_STATE = IllegalStateException.class;

    private static final int MOST_TOLD = 50;
    private static final Document DOCUMENT = new Document();

    private static int promise;
    private static String sentence = "";
    private static int made;
    private static int wrong;

    private Checks() {
    }

    /** The checks from here on hold this sentence of this promise; 0 is what stands before the promises. */
    static void holds(int promiseHeld, String sentenceHeld) {
        promise = promiseHeld;
        sentence = sentenceHeld;
        if (!DOCUMENT.says(promise, sentence)) {
            fail("the document does not say so");
        }
    }

    static void due(String what, Object want, Supplier<Object> call) {
        made++;
        Object got = answerOf(call);
        if (!want.equals(got)) {
            fail(what + " answered " + got + ", due is " + want);
        }
    }

    /** The call throws just this exception, and changes nothing. */
    static void refused(String what, Class<?> want, Supplier<TypeFoundry> maker, Function<TypeFoundry, Object> call) {
        told(what, want, maker, call);
    }

    /** The call answers this, and changes nothing. */
    static void told(String what, Object want, Supplier<TypeFoundry> maker, Function<TypeFoundry, Object> call) {
        TypeFoundry asked = maker.get();
        due(what, want, () -> call.apply(asked));
        due(what + ", then the whole foundry", Calls.allOf(maker.get()), () -> Calls.allOf(asked));
    }

    /** What the call answers, or the class of the exception that it throws. */
    static Object answerOf(Supplier<Object> call) {
        try {
            return call.get();
        } catch (RuntimeException thrown) {
            return thrown.getClass();
        }
    }

    /** The number of a word that is told as text. */
    static int word(String letters) {
        int number = 0;
        for (int i = 0; i < letters.length(); i++) {
            number = number * 27 + (letters.charAt(i) - 'a' + 1);
        }
        return number;
    }

    /** Ends a test that has to hold each sentence of these promises. */
    static void end(String name, int... promises) {
        for (int number : promises) {
            promise = number;
            for (String missed : DOCUMENT.notHeld(number)) {
                sentence = missed;
                fail("no test holds this sentence");
            }
        }
        System.out.println(name + ": " + made + " checks, " + wrong + " wrong");
        if (wrong != 0 || made == 0) {
            System.exit(1);
        }
    }

    private static void fail(String why) {
        wrong++;
        if (wrong > MOST_TOLD) {
            return;
        }
        System.out.println((promise == 0 ? "the document" : "promise " + promise) + ", \"" + sentence + "\": " + why);
    }
}

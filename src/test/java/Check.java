import java.util.function.IntToLongFunction;

/** Counts the answers that are not as due, and tells them with the promise or the sentence that they break. */
final class Check {
    static final int LOW = Integer.MIN_VALUE, HIGH = Integer.MAX_VALUE;

    private static int wrong = 0;
    private static int looked = 0;
    private static String sentence = "";

    private Check() {
    }

    static void due(int promise, String call, long got, long want) {
        due("promise " + promise, call, got, want);
    }

    static void so(int promise, String what, boolean holds) {
        due(promise, what, holds ? 1 : 0, 1);
    }

    /** From here on what is due without a promise's number is due by this sentence. */
    static void by(String quoted) {
        sentence = quoted;
    }

    static void due(String call, long got, long want) {
        due(sentence, call, got, want);
    }

    static void so(String what, boolean holds) {
        due(what, holds ? 1 : 0, 1);
    }

    /** The same answer is due for each of these arguments. */
    static void each(String call, IntToLongFunction called, long want, int... arguments) {
        for (int argument : arguments) {
            due(call + " with " + argument, called.applyAsLong(argument), want);
        }
    }

    private static void due(String broken, String call, long got, long want) {
        looked++;
        if (got != want) {
            wrong++;
            System.out.println(broken + ": " + call + " answered " + got + ", due is " + want);
        }
    }

    static int looked() {
        return looked;
    }

    /** The last call of a test's main: ends with exit code 1 if anything was wrong, or if nothing was looked at. */
    static void end(String test) {
        System.out.println(test + ": " + looked + " looked at, " + wrong + " wrong");
        if (wrong != 0 || looked == 0) {
            System.exit(1);
        }
    }
}

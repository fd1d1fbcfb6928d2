/** Counts the answers that are not as due, and tells them with the promise that they break. */
final class Check {
    private static int wrong = 0;
    private static int looked = 0;

    private Check() {
    }

    static void due(int promise, String call, long got, long want) {
        looked++;
        if (got != want) {
            wrong++;
            System.out.println("promise " + promise + ": " + call + " answered " + got + ", due is " + want);
        }
    }

    static void so(int promise, String what, boolean holds) {
        due(promise, what, holds ? 1 : 0, 1);
    }

    /** The last call of a test's main: ends with exit code 1 if anything was wrong, or if nothing was looked at. */
    static void end(String test) {
        System.out.println(test + ": " + looked + " looked at, " + wrong + " wrong");
        if (wrong != 0 || looked == 0) {
            System.exit(1);
        }
    }
}

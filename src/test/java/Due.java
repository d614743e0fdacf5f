/** Compares answers with those that are due, and counts the wrong ones. */
final class Due {
    private static int right = 0;
    private static int wrong = 0;

    private Due() {
    }

    static void is(String call, long got, long want) {
        if (got == want) {
            right++;
            return;
        }
        wrong++;
        System.out.println("  " + call + " answered " + got + ", due is " + want);
    }

    static void same(String what, String got, String want) {
        boolean same = got.equals(want);
        is(what + (same ? "" : ": it is '" + got + "', due is '" + want + "';"), same ? 1 : 0, 1);
    }

    /** Tells what came out; a program that ends wrong ends with 1. */
    static void end(String name) {
        System.out.println((wrong == 0 ? "ok    " : "WRONG ") + name + ": " + right + " right, " + wrong + " wrong");
        if (wrong != 0) {
            System.exit(1);
        }
    }
}

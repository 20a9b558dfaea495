/** Compares answers with those that are due, prints the wrong ones, and ends a test with its exit code. */
final class Due {
    private static int wrong = 0;
    private static String inCase = "";

    private Due() {
    }

    /** From now on what is wrong is told with this name before it. */
    static void inCase(String name) {
        inCase = name + ": ";
    }

    static void same(String call, long got, long want) {
        if (got != want) {
            tell(call, String.valueOf(got), String.valueOf(want));
        }
    }

    static void same(String call, String got, String want) {
        if (!got.equals(want)) {
            tell(call, got, want);
        }
    }

    static void that(String what, boolean holds) {
        if (!holds) {
            tell(what, "false", "true");
        }
    }

    static boolean anyWrong() {
        return wrong > 0;
    }

    static void end() {
        if (wrong > 0) {
            System.out.println(wrong + " answers are not as due");
            System.exit(1);
        }
        System.out.println("all answers are as due");
    }

    private static void tell(String call, String got, String want) {
        wrong++;
        System.out.println(inCase + call + " answered " + got + ", due is " + want);
    }
}

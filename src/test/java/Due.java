/** Counts and prints the answers that are not the ones that are due. */
final class Due {
    private static int asked = 0;
    private static int wrong = 0;
    private static String about = "";

    private Due() {
    }

    static void about(String text) {
        about = text;
    }

    static void is(String call, long want, long got) {
        asked++;
        if (got != want) {
            wrong++;
            System.out.println(about + ": " + call + " answered " + got + ", due is " + want);
        }
    }

    static void is(String call, boolean want, boolean got) {
        is(call, want ? 1L : 0L, got ? 1L : 0L);
    }

    /** The numbers that a row of calls answers until it answers -1. */
    static void row(String call, int[] want, java.util.function.IntUnaryOperator row) {
        for (int i = 0; i < want.length; i++) {
            is(call + " at " + i, want[i], row.applyAsInt(i));
        }
        is(call + " behind its end", -1L, row.applyAsInt(want.length));
        is(call + " at -1", -1L, row.applyAsInt(-1));
    }

    static void end() {
        System.out.println(asked + " answers looked at, " + wrong + " not as due");
        if (wrong != 0 || asked == 0) {
            System.exit(1);
        }
    }
}

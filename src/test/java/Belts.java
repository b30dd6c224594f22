/** What several tests do with a belt: build one, ask a fault's kind, clear faults. */
final class Belts {
    static final int UNKNOWN = -11, OUTSIDE = -12, STATE = -13, ROOM = -14;
    static final int STRANGER = 1, LOST = 2, DOUBLE = 3, SHORT = 4, JAM = 5, STOP = 6;
    static final long LATEST = 1000000000L;

    private static final int[][] STEPS = {{1}, {1, 2}, {1, 3}, {1}, {4, 3, 5}, {4, 5}};

    private Belts() {
    }

    static JamRules belt(long... places) {
        JamRules x = new JamRules();
        for (long place : places) {
            x.sensor(place);
        }
        return x;
    }

    /** Items of a length, each as soon behind the one before as it may be, the first at a time. */
    static void items(JamRules x, int many, long length, long first) {
        for (int i = 0; i < many; i++) {
            x.item(length, first + i * (length + 30));
        }
    }

    /** The kinds of the last faults from a number on; they are not cleared. */
    static void kinds(JamRules x, int from, int... want) {
        for (int k = 0; k < want.length; k++) {
            Due.is("kind of fault " + (from + k), want[k], kind(x, from + k));
        }
        Due.is("no fault more", UNKNOWN, x.cause(from + want.length));
    }

    /** A fault's kind, 0 of one that is cleared. */
    static int kind(JamRules x, int fault) {
        return told(x, fault, 2, 0);
    }

    /** What alarm() tells of a fault, wherever it stands by its rank. */
    static int told(JamRules x, int fault, int what, int none) {
        for (int i = 0; i < 40; i++) {
            if (x.alarm(i, 0) == fault) {
                return x.alarm(i, what);
            }
        }
        return none;
    }

    static int[] steps(int kind) {
        return STEPS[kind - 1];
    }

    static void clear(JamRules x, int fault) {
        int kind = kind(x, fault);
        Due.is("fault " + fault + " is not cleared", true, kind != 0);
        if (kind != 0) {
            for (int step : steps(kind)) {
                Due.is("step " + step + " of fault " + fault, 1, x.step(fault, step));
            }
        }
        Due.is("fault " + fault + " is cleared", 0, kind(x, fault));
    }

    /** Planted faults that are cleared at once, up to a number; the rule of SHORT must not stop. */
    static void plantedUpTo(JamRules x, int last, long t) {
        for (int fault = 1; fault <= last; fault++) {
            Due.is("planted", fault, x.plant(SHORT, t));
            Due.is("cleared", 1, x.step(fault, 1));
        }
    }
}

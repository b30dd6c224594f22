import java.util.Random;

/** All that an object answers: now, and to later calls, so that two objects can be held side by side. */
final class Shown {
    private Shown() {
    }

    /** What can be asked without a change. */
    static String now(JamRules x) {
        StringBuilder all = new StringBuilder();
        for (int s = -1; s < 9; s++) {
            all.append(x.count(s)).append(' ');
        }
        for (int f = 0; f < 42; f++) {
            all.append(x.cause(f)).append(' ');
            for (int i = 0; x.doubt(f, i) > 0; i++) {
                all.append(x.doubt(f, i)).append(',');
            }
        }
        for (int i = 0; x.alarm(i, 0) > 0; i++) {
            for (int what = 0; what < 5; what++) {
                all.append(x.alarm(i, what)).append(' ');
            }
        }
        for (int i = 0; x.listed(i) > 0; i++) {
            all.append(x.listed(i)).append(';');
        }
        return all.append(x.goesOn()).toString();
    }

    /** What comes of more calls; they bring to light the clock, the rules, and what is dark by whom. */
    static String later(JamRules x, long[] times, int seed) {
        Random dice = new Random(seed);
        StringBuilder all = new StringBuilder(now(x));
        for (long t : times) {
            all.append('\n').append(t);
            all.append(' ').append(x.item(50, t));
            for (int s = 0; s < 8; s++) {
                boolean dark = dice.nextBoolean();
                all.append(' ').append(x.edge(s, dark, t)).append(' ').append(x.edge(s, !dark, t));
            }
            all.append(' ').append(x.plant(1 + dice.nextInt(6), t));
            for (int f = 1; f <= 40; f++) {
                for (int step : new int[] {4, 1, 3, 2, 5}) {
                    all.append(x.step(f, step)).append(',');
                }
            }
            all.append(now(x)).append(' ').append(x.feed(1 + dice.nextInt(60)));
        }
        for (int kind = 1; kind <= 6; kind++) {
            all.append(' ').append(x.rule(kind, 0, false));
        }
        return all.toString();
    }
}

import java.util.Random;

/** Arbitrary calls, the same ones each time: none throws, and one that is refused changes nothing. */
public final class AnyCallsTest {
    private static final int RUNS = 3000, CALLS = 300;
    private static final long[] ODD = {
        Long.MIN_VALUE, Integer.MIN_VALUE, -1, 0, 1, 49, 100, 1000000000L, 1000000001L, Integer.MAX_VALUE, Long.MAX_VALUE
    };

    private final Random dice;
    private final JamRules x = new JamRules();
    private long now = 0L;
    private long nextHead = 0L;

    private AnyCallsTest(long seed) {
        dice = new Random(seed);
    }

    public static void main(String[] args) {
        for (int run = 0; run < RUNS; run++) {
            Due.about("run " + run);
            new AnyCallsTest(run).play(run % 3 == 0);
        }
        Due.end();
    }

    private void play(boolean odd) {
        int sensors = 1 + dice.nextInt(8);
        for (int s = 0; s < sensors; s++) {
            x.sensor(100L + 100L * s * (1 + dice.nextInt(3)));
        }
        for (int c = 0; c < CALLS; c++) {
            String before = c % 10 == 0 ? shown() : "";
            String call = "";
            long got = 0;
            try {
                int what = dice.nextInt(odd ? 13 : 20);
                call = "call of " + what;
                got = odd && dice.nextInt(3) == 0 ? oddCall(what) : likelyCall(what);
            } catch (RuntimeException thrown) {
                Due.is(call + " threw " + thrown, 0, 1);
            }
            if (got <= -11) {
                Due.is("a refusal's number", true, got >= -14);
            }
            if (got <= -11 && !before.isEmpty()) {
                Due.is(call + " was refused and changed something", true, before.equals(shown()));
            }
        }
    }

    private long oddCall(int what) {
        int a = (int) ODD[dice.nextInt(ODD.length)];
        int b = (int) ODD[dice.nextInt(ODD.length)];
        long t = ODD[dice.nextInt(ODD.length)];
        boolean flag = dice.nextBoolean();
        switch (what) {
            case 0: return x.sensor(t);
            case 1: return x.item(a, t);
            case 2: return x.edge(a, flag, t == 1000000000L ? now : t);
            case 3: return x.doubt(a, b);
            case 4: return x.cause(a);
            case 5: return x.step(a, b);
            case 6: return x.feed(a);
            case 7: return x.listed(a);
            case 8: return x.rule(a, b, flag);
            case 9: return x.plant(a, t == 1000000000L ? now : t);
            case 10: return x.alarm(a, b);
            case 11: return x.count(a);
            default: return x.goesOn() ? 1 : 0;
        }
    }

    private long likelyCall(int what) {
        switch (what) {
            case 0: case 1: return likelyItem();
            case 2: return x.rule(1 + dice.nextInt(6), dice.nextInt(4) == 0 ? 1 : 0, dice.nextInt(6) == 0);
            case 3: now += dice.nextInt(30); return x.plant(1 + dice.nextInt(6), now);
            case 4: return x.feed(1 + dice.nextInt(60));
            case 5: case 6: case 7: case 8: return clearFirst();
            default:
                now += dice.nextInt(dice.nextInt(20) == 0 ? 700 : 60);
                return x.edge(dice.nextInt(8), dice.nextBoolean(), now);
        }
    }

    private long likelyItem() {
        long length = 50 + dice.nextInt(200);
        long at = Math.max(nextHead, now) + dice.nextInt(40);
        int got = x.item(length, at);
        if (got > 0) {
            nextHead = at + length + 30;
        }
        return got;
    }

    private long clearFirst() {
        int first = 0;
        for (int i = 0; x.alarm(i, 0) > 0; i++) {
            int fault = x.alarm(i, 0);
            first = first == 0 ? fault : Math.min(first, fault);
        }
        return x.step(first, 1 + dice.nextInt(5));
    }

    /** All that can be asked without a change. */
    private String shown() {
        StringBuilder all = new StringBuilder();
        for (int s = 0; s < 9; s++) {
            all.append(x.count(s)).append(' ');
        }
        for (int f = 1; f < 42; f++) {
            all.append(x.cause(f)).append(' ');
            for (int i = 0; x.doubt(f, i) > 0; i++) {
                all.append(x.doubt(f, i)).append(',');
            }
        }
        for (int i = 0; x.alarm(i, 0) > 0; i++) {
            for (int what = 0; what < 5; what++) {
                all.append(x.alarm(i, what)).append(' ');
            }
        }
        for (int i = 0; x.listed(i) > 0; i++) {
            all.append(x.listed(i)).append(';');
        }
        return all.append(x.goesOn()).toString();
    }
}

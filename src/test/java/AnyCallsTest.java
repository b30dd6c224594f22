import java.util.Random;
import java.util.function.ToIntFunction;

/**
 * Arbitrary calls, the same ones each time: none throws, and one that is refused changes nothing, so a twin
 * that never gets the refused ones answers all others alike.
 */
public final class AnyCallsTest {
    private static final int RUNS = 3000, CALLS = 300;
    private static final long[] ODD = {
        Long.MIN_VALUE, Integer.MIN_VALUE, -1, 0, 1, 49, 100, 1000000000L, 1000000001L, Integer.MAX_VALUE, Long.MAX_VALUE
    };

    private final Random dice;
    private final JamRules x = new JamRules();
    private final JamRules twin = new JamRules();
    private long now = 0L;
    private long nextHead = 0L;

    private AnyCallsTest(long seed) {
        dice = new Random(seed);
    }

    public static void main(String[] args) {
        for (int run = 0; run < RUNS; run++) {
            Due.about("run " + run);
            new AnyCallsTest(run).play(run % 3 == 0);
        }
        Due.end();
    }

    private void play(boolean odd) {
        int sensors = 1 + dice.nextInt(8);
        for (int s = 0; s < sensors; s++) {
            long at = 100L + 100L * s * (1 + dice.nextInt(3));
            both("sensor", y -> y.sensor(at));
        }
        for (int c = 0; c < CALLS; c++) {
            int what = dice.nextInt(odd ? 13 : 20);
            if (odd && dice.nextInt(3) == 0) {
                both("odd call of " + what, oddCall(what));
            } else {
                likelyCall(what);
            }
            if (c % 50 == 0) {
                Due.is("the twin shows the same", true, Shown.now(x).equals(Shown.now(twin)));
            }
        }
        long[] times = {now, now + 20, now + 600, now + 1200, now + 12000};
        Due.is("the twin goes on alike", true, Shown.later(x, times, 1).equals(Shown.later(twin, times, 1)));
    }

    private int both(String name, ToIntFunction<JamRules> call) {
        int got = 0;
        try {
            got = call.applyAsInt(x);
            if (got > JamRules.UNKNOWN) {
                Due.is(name + " of the twin", got, call.applyAsInt(twin));
            }
        } catch (RuntimeException thrown) {
            Due.is(name + " threw " + thrown, 0, 1);
        }
        Due.is("no refusal has the number " + got, true, got >= JamRules.ROOM && (got <= JamRules.UNKNOWN || got >= -1));
        return got;
    }

    private ToIntFunction<JamRules> oddCall(int what) {
        int a = (int) ODD[dice.nextInt(ODD.length)];
        int b = (int) ODD[dice.nextInt(ODD.length)];
        long t = ODD[dice.nextInt(ODD.length)];
        long near = t == 1000000000L ? now : t;
        boolean flag = dice.nextBoolean();
        switch (what) {
            case 0: return y -> y.sensor(t);
            case 1: return y -> y.item(a, t);
            case 2: return y -> y.edge(a, flag, near);
            case 3: return y -> y.doubt(a, b);
            case 4: return y -> y.cause(a);
            case 5: return y -> y.step(a, b);
            case 6: return y -> y.feed(a);
            case 7: return y -> y.listed(a);
            case 8: return y -> y.rule(a, b, flag);
            case 9: return y -> y.plant(a, near);
            case 10: return y -> y.alarm(a, b);
            case 11: return y -> y.count(a);
            default: return y -> y.goesOn() ? 1 : 0;
        }
    }

    private void likelyCall(int what) {
        switch (what) {
            case 0: case 1: likelyItem(); break;
            case 2: likelyRule(); break;
            case 3: likelyPlant(); break;
            case 4: likelyFeed(); break;
            case 5: case 6: case 7: case 8: clearFirst(); break;
            default: likelyEdge(); break;
        }
    }

    private void likelyItem() {
        long length = 50 + dice.nextInt(200);
        long at = Math.max(nextHead, now) + dice.nextInt(40) - 2;
        if (both("item", y -> y.item(length, at)) > 0) {
            nextHead = at + length + 30;
        }
    }

    private void likelyRule() {
        int kind = 1 + dice.nextInt(6);
        int does = dice.nextInt(4) == 0 ? 1 : 0;
        boolean throwsUp = dice.nextInt(6) == 0;
        both("rule", y -> y.rule(kind, does, throwsUp));
    }

    private void likelyPlant() {
        int kind = 1 + dice.nextInt(6);
        long t = now + dice.nextInt(30) - 2;
        if (both("plant", y -> y.plant(kind, t)) > 0) {
            now = t;
        }
    }

    private void likelyFeed() {
        int item = 1 + dice.nextInt(60);
        both("feed", y -> y.feed(item));
    }

    private void likelyEdge() {
        int sensor = dice.nextInt(8);
        boolean dark = dice.nextBoolean();
        long t = now + dice.nextInt(dice.nextInt(20) == 0 ? 700 : 60) - 2;
        if (both("edge", y -> y.edge(sensor, dark, t)) >= 0) {
            now = t;
        }
    }

    private void clearFirst() {
        int first = 0;
        for (int i = 0; x.alarm(i, 0) > 0; i++) {
            int fault = x.alarm(i, 0);
            first = first == 0 ? fault : Math.min(first, fault);
        }
        int asked = first;
        int step = 1 + dice.nextInt(5);
        both("step", y -> y.step(asked, step));
    }
}

/** Each promise of the document: ordinary inputs, the edges that it names, wrong inputs. */
public final class PromisesTest {
    private static final int UNKNOWN = -11, OUTSIDE = -12, STATE = -13, ROOM = -14;
    private static final long LATEST = 1000000000L;

    public static void main(String[] args) {
        newObject();
        sensor();
        item();
        itemRoom();
        edge();
        doubt();
        cause();
        step();
        feedAndListed();
        rule();
        plant();
        plantRoom();
        alarm();
        count();
        goesOn();
        Due.end();
    }

    private static void newObject() {
        Due.about("promise 1");
        JamRules x = new JamRules();
        Due.is("goesOn()", true, x.goesOn());
        Due.is("count(0)", UNKNOWN, x.count(0));
        Due.is("feed(1)", UNKNOWN, x.feed(1));
        Due.is("cause(1)", UNKNOWN, x.cause(1));
        Due.is("item before a sensor", STATE, x.item(50, 0));
        Due.is("alarm(0, 0)", -1, x.alarm(0, 0));
        Due.is("listed(0)", -1, x.listed(0));
        int[] stops = {0, 0, 0, 0, 1, 1};
        for (int kind = 1; kind <= 6; kind++) {
            Due.is("rule of " + kind, stops[kind - 1], x.rule(kind, 0, false));
        }
        Due.is("the clock is 0", OUTSIDE, x.plant(1, -1));
        Due.is("the clock is 0", 1, x.plant(1, 0));
    }

    private static void sensor() {
        Due.about("promise 2");
        JamRules x = new JamRules();
        Due.is("99", OUTSIDE, x.sensor(99));
        Due.is("-1", OUTSIDE, x.sensor(-1));
        Due.is("least", OUTSIDE, x.sensor(Long.MIN_VALUE));
        Due.is("greatest", OUTSIDE, x.sensor(Long.MAX_VALUE));
        Due.is("100001", OUTSIDE, x.sensor(100001));
        Due.is("100", 0, x.sensor(100));
        Due.is("199", OUTSIDE, x.sensor(199));
        Due.is("200", 1, x.sensor(200));
        for (int s = 2; s < 8; s++) {
            Due.is("sensor " + s, s, x.sensor(100 + 100 * s));
        }
        Due.is("a ninth", ROOM, x.sensor(5000));
        Due.is("a ninth, outside", OUTSIDE, x.sensor(850));
        Due.is("item", 1, x.item(50, 0));
        Due.is("STATE before ROOM", STATE, x.sensor(5000));
        Due.is("OUTSIDE before STATE", OUTSIDE, x.sensor(850));

        JamRules far = new JamRules();
        Due.is("100000", 0, far.sensor(100000));
        Due.is("none behind it", OUTSIDE, far.sensor(100100));

        JamRules standing = new JamRules();
        standing.plant(6, 0);
        Due.is("while the belt stands", 0, standing.sensor(100));
    }

    private static void item() {
        Due.about("promise 3");
        JamRules x = new JamRules();
        Due.is("no sensor", STATE, x.item(50, 0));
        Due.is("OUTSIDE before STATE", OUTSIDE, x.item(49, 0));
        x.sensor(1000);
        Due.is("49 long", OUTSIDE, x.item(49, 0));
        Due.is("1001 long", OUTSIDE, x.item(1001, 0));
        Due.is("least length", OUTSIDE, x.item(Long.MIN_VALUE, 0));
        Due.is("greatest length", OUTSIDE, x.item(Long.MAX_VALUE, 0));
        Due.is("t -1", OUTSIDE, x.item(50, -1));
        Due.is("t too late", OUTSIDE, x.item(50, LATEST + 1));
        Due.is("least t", OUTSIDE, x.item(50, Long.MIN_VALUE));
        Due.is("greatest t", OUTSIDE, x.item(50, Long.MAX_VALUE));
        Due.is("1000 long at 5", 1, x.item(1000, 5));
        Due.is("the length of the one before counts", OUTSIDE, x.item(50, 1034));
        Due.is("the length of the one before counts", 2, x.item(50, 1035));
        Due.is("its own does not", 3, x.item(1000, 1115));
        x.edge(0, true, 3000);
        Due.is("below the clock", OUTSIDE, x.item(50, 2999));
        Due.is("at the clock", 4, x.item(50, 3000));
        x.plant(6, 3100);
        Due.is("the belt stands", STATE, x.item(50, 3200));
        Due.is("OUTSIDE before STATE", OUTSIDE, x.item(50, 3099));

        JamRules late = new JamRules();
        late.sensor(100);
        Due.is("the latest t", 1, late.item(50, LATEST));
        Due.is("none behind it", OUTSIDE, late.item(50, LATEST + 80));
    }

    private static void itemRoom() {
        Due.about("promise 3");
        JamRules x = new JamRules();
        x.sensor(100);
        for (int i = 1; i <= 60; i++) {
            Due.is("item " + i, i, x.item(50, 80L * i));
        }
        Due.is("the 61st", ROOM, x.item(50, 4880));
        Due.is("the 61st, outside", OUTSIDE, x.item(50, 4879));
        x.plant(6, 0);
        Due.is("STATE before ROOM", STATE, x.item(50, 4880));
    }

    private static void edge() {
        Due.about("promise 4");
        JamRules x = new JamRules();
        Due.is("no sensor", UNKNOWN, x.edge(0, true, 0));
        x.sensor(1000);
        Due.is("sensor 1", UNKNOWN, x.edge(1, true, 0));
        Due.is("sensor -1", UNKNOWN, x.edge(-1, true, 0));
        Due.is("least sensor", UNKNOWN, x.edge(Integer.MIN_VALUE, true, -1));
        Due.is("greatest sensor", UNKNOWN, x.edge(Integer.MAX_VALUE, true, -1));
        Due.is("t -1", OUTSIDE, x.edge(0, true, -1));
        Due.is("t too late", OUTSIDE, x.edge(0, true, LATEST + 1));
        Due.is("OUTSIDE before STATE", OUTSIDE, x.edge(0, false, -1));
        Due.is("light already", STATE, x.edge(0, false, 0));
        x.item(100, 0);
        Due.is("seen", 0, x.edge(0, true, 1000));
        Due.is("dark already", STATE, x.edge(0, true, 1001));
        Due.is("the clock is 1000 yet", 2, x.item(100, 1000));
        Due.is("below the clock", OUTSIDE, x.edge(0, false, 999));
        Due.is("passed", 0, x.edge(0, false, 1100));
        Due.is("a stranger", 1, x.edge(0, true, 1100));
        Due.is("gone", 0, x.edge(0, false, 1150));
        x.plant(6, 1160);
        Due.is("the belt stands", STATE, x.edge(0, true, 1170));
        Due.is("the belt stands: OUTSIDE first", OUTSIDE, x.edge(0, true, 1159));

        JamRules late = new JamRules();
        late.sensor(100);
        Due.is("the latest t", 1, late.edge(0, true, LATEST));
        Due.is("its time", (int) LATEST, late.alarm(0, 4));
    }

    private static void doubt() {
        Due.about("promise 5");
        JamRules x = new JamRules();
        x.sensor(1000);
        x.item(100, 0);
        x.item(100, 200);
        x.item(100, 900);
        Due.is("fault 1 before it", UNKNOWN, x.doubt(1, 0));
        Due.is("stranger", 1, x.edge(0, true, 899));
        Due.row("doubt(1, ..)", new int[] {1, 2}, i -> x.doubt(1, i));
        Due.is("greatest i", -1, x.doubt(1, Integer.MAX_VALUE));
        Due.is("least i", -1, x.doubt(1, Integer.MIN_VALUE));
        Due.is("fault 0", UNKNOWN, x.doubt(0, 0));
        Due.is("fault 2", UNKNOWN, x.doubt(2, -1));
        Due.is("fault -1", UNKNOWN, x.doubt(-1, 0));
        x.step(1, 1);
        Due.row("cleared", new int[] {1, 2}, i -> x.doubt(1, i));
        x.plant(2, 900);
        Due.row("planted", new int[] {}, i -> x.doubt(2, i));
    }

    private static void cause() {
        Due.about("promise 6");
        JamRules x = new JamRules();
        x.sensor(1000);
        x.sensor(2000);
        Due.is("cause(0)", UNKNOWN, x.cause(0));
        Due.is("cause(1)", UNKNOWN, x.cause(1));
        Due.is("cause(-1)", UNKNOWN, x.cause(-1));
        for (int kind = 1; kind <= 4; kind++) {
            x.plant(kind, 10);
            Due.is("planted " + kind, 90 + kind, x.cause(kind));
            x.step(kind, 1);
            x.step(kind, kind);
        }
        Due.is("a stranger, planted ones before", 5, x.edge(0, true, 100));
        Due.is("none that was planted counts", 10, x.cause(5));
        x.step(5, 1);
        x.edge(0, false, 101);
        Due.is("10,000 before", 6, x.edge(0, true, 10100));
        Due.is("10,000 before", 11, x.cause(6));
        x.step(6, 1);
        x.edge(0, false, 10101);
        Due.is("10,001 before", 7, x.edge(0, true, 20101));
        Due.is("10,001 before", 10, x.cause(7));
        Due.is("another sensor", 8, x.edge(1, true, 20101));
        Due.is("another sensor", 10, x.cause(8));
        x.step(7, 1);
        x.step(8, 1);
        Due.is("stop", 9, x.plant(6, 20102));
        Due.is("no stop before", 60, x.cause(9));
        x.step(9, 4);
        x.step(9, 5);
        Due.is("stop", 10, x.plant(6, 30102));
        Due.is("a stop before", 61, x.cause(10));
        x.step(10, 4);
        x.step(10, 5);
        Due.is("stop", 11, x.plant(6, 40103));
        Due.is("10,001 before", 60, x.cause(11));
        x.step(11, 4);
        x.step(11, 5);
        x.rule(6, 0, true);
        x.rule(1, 0, true);
        Due.is("stop", 12, x.plant(6, 40104));
        Due.is("its rule threw", 62, x.cause(12));
        x.step(12, 4);
        x.step(12, 5);
        Due.is("stranger", 13, x.edge(1, true, 40105));
        Due.is("its rule threw", 12, x.cause(13));
        x.step(13, 1);
        x.rule(5, 1, true);
        Due.is("planted jam", 14, x.plant(5, 40106));
        Due.is("planted, its rule threw", 95, x.cause(14));
    }

    private static void step() {
        Due.about("promise 7");
        int[][] rows = {{1}, {1, 2}, {1, 3}, {1}, {4, 3, 5}, {4, 5}};
        for (int kind = 1; kind <= 6; kind++) {
            JamRules x = new JamRules();
            Due.is("no fault", UNKNOWN, x.step(1, 1));
            Due.is("UNKNOWN before OUTSIDE", UNKNOWN, x.step(1, 0));
            x.plant(kind, 0);
            int[] row = rows[kind - 1];
            for (int due : row) {
                for (int other = 1; other <= 5; other++) {
                    if (other != due) {
                        Due.is("kind " + kind + ", not " + other, 0, x.step(1, other));
                    }
                }
                Due.is("0", OUTSIDE, x.step(1, 0));
                Due.is("6", OUTSIDE, x.step(1, 6));
                Due.is("not cleared yet", 1, x.alarm(0, 0));
                Due.is("kind " + kind + ", " + due, 1, x.step(1, due));
            }
            Due.is("cleared", -1, x.alarm(0, 0));
            Due.is("cleared", STATE, x.step(1, 1));
            Due.is("OUTSIDE before STATE", OUTSIDE, x.step(1, 0));
            Due.is("fault 0", UNKNOWN, x.step(0, 1));
            Due.is("fault -1", UNKNOWN, x.step(-1, 1));
            Due.is("fault 2", UNKNOWN, x.step(2, 1));
        }
        JamRules x = new JamRules();
        x.plant(2, 0);
        x.plant(1, 0);
        Due.is("one before it is not", STATE, x.step(2, 1));
        Due.is("half of it", 1, x.step(1, 1));
        Due.is("one before it is not yet", STATE, x.step(2, 1));
        Due.is("the rest", 1, x.step(1, 2));
        Due.is("now it is", 1, x.step(2, 1));
    }

    private static void feedAndListed() {
        Due.about("promises 8 and 9");
        JamRules x = new JamRules();
        x.sensor(1000);
        for (int i = 0; i < 4; i++) {
            x.item(100, 200L * i);
        }
        Due.row("empty", new int[] {}, x::listed);
        x.plant(6, 0);
        Due.is("item 0", UNKNOWN, x.feed(0));
        Due.is("item 5", UNKNOWN, x.feed(5));
        Due.is("item -1", UNKNOWN, x.feed(-1));
        Due.is("least item", UNKNOWN, x.feed(Integer.MIN_VALUE));
        Due.is("not on the list", STATE, x.feed(1));
        x.step(1, 4);
        Due.row("not cleared", new int[] {}, x::listed);
        x.step(1, 5);
        Due.row("cleared", new int[] {1, 2, 3, 4}, x::listed);
        Due.is("greatest i", -1, x.listed(Integer.MAX_VALUE));
        Due.is("least i", -1, x.listed(Integer.MIN_VALUE));
        Due.is("feed(2)", 1, x.feed(2));
        Due.row("without 2", new int[] {1, 3, 4}, x::listed);
        Due.is("feed(2) again", 0, x.feed(2));
        Due.is("feed(4)", 1, x.feed(4));
        Due.is("feed(1)", 1, x.feed(1));
        Due.row("3 alone", new int[] {3}, x::listed);
        Due.is("feed(3)", 1, x.feed(3));
        Due.row("nobody", new int[] {}, x::listed);
        Due.is("feed(1) again", 0, x.feed(1));
    }

    private static void rule() {
        Due.about("promise 10");
        JamRules x = new JamRules();
        Due.is("kind 0", OUTSIDE, x.rule(0, 0, false));
        Due.is("kind 7", OUTSIDE, x.rule(7, 0, false));
        Due.is("kind -1", OUTSIDE, x.rule(-1, 0, true));
        Due.is("does 2", OUTSIDE, x.rule(1, 2, true));
        Due.is("does -1", OUTSIDE, x.rule(5, -1, false));
        Due.is("refused ones changed nothing", 0, x.rule(1, 1, false));
        Due.is("refused ones changed nothing", 1, x.rule(5, 1, false));
        Due.is("as set", 1, x.rule(1, 0, true));
        Due.is("one that throws says 0", 0, x.rule(1, 1, true));
        Due.is("one that throws says 1", 1, x.rule(1, 0, true));
        Due.is("plant", 1, x.plant(1, 0));
        Due.is("it stops", false, x.goesOn());
        Due.is("while the belt stands", 0, x.rule(2, 1, false));
        x.step(1, 1);
        Due.is("plant", 2, x.plant(1, 0));
        Due.is("it stops now without a throw", false, x.goesOn());
        Due.is("its rank", 2, x.alarm(0, 1));
        Due.is("one then that stops", 1, x.rule(1, 0, false));
        Due.is("a fault stays as its rule was", false, x.goesOn());
        x.step(2, 1);
        Due.is("plant", 3, x.plant(1, 0));
        Due.is("no more", true, x.goesOn());
        x.rule(1, 1, false);
        Due.is("a fault stays as its rule was", true, x.goesOn());
    }

    private static void plant() {
        Due.about("promise 11");
        JamRules x = new JamRules();
        Due.is("kind 0", OUTSIDE, x.plant(0, 0));
        Due.is("kind 7", OUTSIDE, x.plant(7, 0));
        Due.is("t -1", OUTSIDE, x.plant(1, -1));
        Due.is("t too late", OUTSIDE, x.plant(1, LATEST + 1));
        Due.is("least t", OUTSIDE, x.plant(1, Long.MIN_VALUE));
        Due.is("a first one", 1, x.plant(4, 7));
        Due.is("no sensor", -1, x.alarm(0, 3));
        Due.is("its time", 7, x.alarm(0, 4));
        Due.is("the clock is 7", OUTSIDE, x.plant(4, 6));
        x.sensor(100);
        Due.is("the clock is 7", OUTSIDE, x.edge(0, true, 6));
        Due.is("a second one", 2, x.plant(6, 7));
        Due.is("the belt stands", STATE, x.plant(4, 8));
        Due.is("OUTSIDE before STATE", OUTSIDE, x.plant(4, 6));
        Due.is("OUTSIDE before STATE", OUTSIDE, x.plant(0, 8));
        x.step(1, 1);
        x.step(2, 4);
        x.step(2, 5);
        Due.is("the latest t", 3, x.plant(1, LATEST));
    }

    private static void plantRoom() {
        Due.about("promise 11");
        JamRules x = new JamRules();
        for (int f = 1; f <= 40; f++) {
            Due.is("fault " + f, f, x.plant(1, f));
            Due.is("step", 1, x.step(f, 1));
        }
        x.rule(1, 1, true);
        Due.is("the 41st", 0, x.plant(1, 50));
        Due.is("the belt does not stop by it", true, x.goesOn());
        Due.is("there is none", UNKNOWN, x.cause(41));
        Due.is("no alarm", -1, x.alarm(0, 0));
        Due.is("OUTSIDE yet", OUTSIDE, x.plant(7, 50));
        Due.is("no planted fault, no later clock", 0, x.plant(1, 40));
        x.rule(1, 0, true);
        x.plant(1, 50);
        Due.is("the rule was not asked", 0, x.rule(1, 0, false));
    }

    private static void alarm() {
        Due.about("promise 12");
        JamRules x = new JamRules();
        x.rule(5, 0, false);
        x.sensor(100);
        x.plant(4, 1);
        x.plant(2, 2);
        x.edge(0, true, 3);
        x.plant(4, 4);
        x.plant(5, 5);
        x.rule(3, 0, true);
        x.plant(3, 6);
        int[][] want = {{6, 9, 3, -1, 6}, {5, 6, 5, -1, 5}, {2, 4, 2, -1, 2}, {3, 2, 1, 0, 3}, {1, 1, 4, -1, 1}, {4, 1, 4, -1, 4}};
        for (int i = 0; i < want.length; i++) {
            for (int what = 0; what < 5; what++) {
                Due.is("alarm(" + i + ", " + what + ")", want[i][what], x.alarm(i, what));
            }
        }
        Due.is("behind the last", -1, x.alarm(6, 0));
        Due.is("i -1", -1, x.alarm(-1, 0));
        Due.is("least i", -1, x.alarm(Integer.MIN_VALUE, 4));
        Due.is("greatest i", -1, x.alarm(Integer.MAX_VALUE, 4));
        Due.is("what 5", OUTSIDE, x.alarm(0, 5));
        Due.is("what -1", OUTSIDE, x.alarm(0, -1));
        Due.is("OUTSIDE, if there is none such", OUTSIDE, x.alarm(9, 5));
        x.step(1, 1);
        Due.is("a cleared one is none", 4, x.alarm(4, 0));
        Due.is("a cleared one is none", -1, x.alarm(5, 0));

        JamRules stop = new JamRules();
        stop.plant(3, 0);
        stop.plant(6, 0);
        Due.is("rank of STOP", 7, stop.alarm(0, 1));
        Due.is("rank of DOUBLE", 3, stop.alarm(1, 1));
    }

    private static void count() {
        Due.about("promise 13");
        JamRules x = new JamRules();
        Due.is("no sensor", UNKNOWN, x.count(0));
        x.sensor(1000);
        x.sensor(2000);
        Due.is("-1", UNKNOWN, x.count(-1));
        Due.is("2", UNKNOWN, x.count(2));
        Due.is("at first", 0, x.count(0));
        x.edge(0, true, 0);
        Due.is("dark", 1, x.count(0));
        x.edge(0, false, 10);
        Due.is("light", 1, x.count(0));
        x.edge(0, false, 20);
        Due.is("refused", 1, x.count(0));
        x.edge(0, true, 30);
        x.edge(1, true, 30);
        Due.is("dark again", 2, x.count(0));
        Due.is("the other", 1, x.count(1));
        x.plant(6, 40);
        x.step(1, 1);
        x.step(2, 1);
        x.step(3, 1);
        x.step(4, 4);
        Due.is("step 4", 2, x.count(0));
        x.step(4, 5);
        Due.is("step 5", 0, x.count(0));
        Due.is("step 5", 0, x.count(1));
    }

    private static void goesOn() {
        Due.about("promise 14");
        JamRules x = new JamRules();
        for (int f = 1; f <= 5; f++) {
            x.plant(1, 0);
            Due.is("with " + f, true, x.goesOn());
        }
        x.plant(1, 0);
        Due.is("with 6", false, x.goesOn());
        x.step(1, 1);
        Due.is("with 5", true, x.goesOn());
        x.plant(5, 0);
        Due.is("with a jam", false, x.goesOn());
        for (int f = 2; f <= 6; f++) {
            x.step(f, 1);
            Due.is("the jam is not cleared", false, x.goesOn());
        }
        x.step(7, 4);
        x.step(7, 3);
        Due.is("a step before", false, x.goesOn());
        x.step(7, 5);
        Due.is("cleared", true, x.goesOn());
    }
}

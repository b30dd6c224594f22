/** The promises' boundary cases, one by one: the last number that is taken, the first that is not, on both sides. */
public final class BoundsTest {
    private static final int UNKNOWN = Belts.UNKNOWN, OUTSIDE = Belts.OUTSIDE, STATE = Belts.STATE, ROOM = Belts.ROOM;
    private static final long LATEST = Belts.LATEST;
    private static final int LEAST = Integer.MIN_VALUE, MOST = Integer.MAX_VALUE;

    public static void main(String[] args) {
        newObjectHasNothing();
        newObjectRuns();
        firstPlace();
        nextPlace();
        lastPlace();
        wildPlaces();
        sensorWithItems();
        sensorRoom();
        itemLength();
        itemTimeAndClock();
        itemTimeLatest();
        itemBehindTheOneBefore();
        itemBehindOneThatIsGone();
        itemWhileStanding();
        itemWithoutSensor();
        itemRoom();
        edgeSensor();
        edgeTimeAndClock();
        edgeTimeLatest();
        edgeWhileStanding();
        edgeAsItIs();
        doubtFault();
        doubtEmptyAndFull();
        causeFault();
        stepFault();
        stepKind();
        stepCleared();
        stepBeforeItsTurn();
        feedItem();
        feedOffTheList();
        feedTwice();
        listedEmptyAndFull();
        ruleKind();
        ruleDoes();
        plantKind();
        plantTime();
        plantWhileStanding();
        plantRoom();
        alarmWhat();
        alarmEmptyAndFull();
        countSensor();
        goesOnWithFiveAndSix();
        Due.end();
    }

    // ---- promise 1 ----

    private static void newObjectHasNothing() {
        Due.about("1: no sensors, no items");
        JamRules x = new JamRules();
        Due.is("count(0)", UNKNOWN, x.count(0));
        Due.is("edge of 0", UNKNOWN, x.edge(0, true, 0));
        Due.is("feed(1)", UNKNOWN, x.feed(1));
        Due.is("doubt(1, 0)", UNKNOWN, x.doubt(1, 0));
        Due.is("cause(1)", UNKNOWN, x.cause(1));
        Due.is("step(1, 1)", UNKNOWN, x.step(1, 1));
        Due.is("alarm(0, 0)", -1, x.alarm(0, 0));
        Due.is("listed(0)", -1, x.listed(0));
        Due.is("the first sensor is 0", 0, x.sensor(100));
        Due.is("the first item is 1", 1, x.item(50, 0));
        Due.is("the first fault is 1", 1, x.plant(1, 0));
    }

    private static void newObjectRuns() {
        Due.about("1: the belt runs");
        JamRules x = new JamRules();
        Due.is("goesOn()", true, x.goesOn());
        JamRules stopped = new JamRules();
        stopped.plant(6, 5);
        Due.is("another object stands", false, stopped.goesOn());
        Due.is("a new one runs", true, new JamRules().goesOn());
        Due.is("its clock is 0", 1, new JamRules().plant(1, 0));
        Due.is("the first one runs", true, x.goesOn());
    }

    // ---- promise 2 ----

    private static void firstPlace() {
        Due.about("2: 100 or more behind 0");
        JamRules x = new JamRules();
        for (long at : new long[] {-100, -1, 0, 1, 99}) {
            Due.is("at " + at, OUTSIDE, x.sensor(at));
        }
        Due.is("at 100", 0, x.sensor(100));
    }

    private static void nextPlace() {
        Due.about("2: 100 or more behind the one before");
        JamRules x = Belts.belt(500);
        for (long at : new long[] {0, 100, 400, 499, 500, 501, 599}) {
            Due.is("at " + at, OUTSIDE, x.sensor(at));
        }
        Due.is("at 600", 1, x.sensor(600));
        Due.is("at 699", OUTSIDE, x.sensor(699));
        Due.is("at 701", 2, x.sensor(701));
        Due.is("behind that, not behind 600", OUTSIDE, x.sensor(800));
        Due.is("behind that", 3, x.sensor(801));
    }

    private static void lastPlace() {
        Due.about("2: at most 100000");
        JamRules x = new JamRules();
        Due.is("100001", OUTSIDE, x.sensor(100001));
        Due.is("100000", 0, x.sensor(100000));
        Due.is("none behind that", OUTSIDE, x.sensor(100000));
        Due.is("none behind that", OUTSIDE, x.sensor(100100));
        JamRules two = Belts.belt(99900);
        Due.is("99999", OUTSIDE, two.sensor(99999));
        Due.is("100001", OUTSIDE, two.sensor(100001));
        Due.is("100000", 1, two.sensor(100000));
    }

    private static void wildPlaces() {
        Due.about("2: places far off");
        JamRules x = Belts.belt(500);
        long[] places = {Long.MIN_VALUE, Long.MIN_VALUE + 100, LEAST, -1000, MOST, 4294967296L + 700, Long.MAX_VALUE - 99, Long.MAX_VALUE};
        for (long at : places) {
            Due.is("at " + at, OUTSIDE, x.sensor(at));
            Due.is("the first at " + at, OUTSIDE, new JamRules().sensor(at));
        }
    }

    private static void sensorWithItems() {
        Due.about("2: there are items");
        JamRules x = Belts.belt(500);
        Due.is("none yet", 1, x.sensor(600));
        x.item(50, 0);
        Due.is("one", STATE, x.sensor(700));
        x.plant(6, 10);
        Belts.clear(x, 1);
        Due.is("it is off, but it is there", STATE, x.sensor(700));
        x.feed(1);
        Due.is("it was fed, but it is there", STATE, x.sensor(700));
        Due.is("no sensor 2", UNKNOWN, x.count(2));
    }

    private static void sensorRoom() {
        Due.about("2: 8 sensors at most");
        JamRules x = new JamRules();
        for (int s = 0; s < 8; s++) {
            Due.is("sensor " + s, s, x.sensor(1000 + 100 * s));
        }
        Due.is("a ninth", ROOM, x.sensor(1800));
        Due.is("no sensor 8", UNKNOWN, x.count(8));
        Due.is("no edge of it", UNKNOWN, x.edge(8, true, 0));
        x.item(50, 0);
        for (int s = 0; s < 8; s++) {
            Due.is("seen by " + s, 0, x.edge(s, true, 1000 + 100 * s));
            Due.is("done by " + s, 0, x.edge(s, false, 1050 + 100 * s));
            Due.is("count of " + s, 1, x.count(s));
        }
        Due.is("it has left", 1, x.edge(7, true, 1800));
    }

    // ---- promise 3 ----

    private static void itemLength() {
        Due.about("3: length 50 .. 1000");
        JamRules x = Belts.belt(1000);
        for (long length : new long[] {Long.MIN_VALUE, -50, 0, 49, 1001, 4294967296L + 50, Long.MAX_VALUE}) {
            Due.is("length " + length, OUTSIDE, x.item(length, 0));
        }
        Due.is("length 50", 1, x.item(50, 0));
        Due.is("length 1000", 2, x.item(1000, 80));
    }

    private static void itemTimeAndClock() {
        Due.about("3: t is below the clock");
        JamRules fresh = Belts.belt(1000);
        Due.is("-1", OUTSIDE, fresh.item(50, -1));
        Due.is("0", 1, fresh.item(50, 0));
        JamRules edge = Belts.belt(1000);
        edge.edge(0, true, 700);
        Due.is("below an edge", OUTSIDE, edge.item(50, 699));
        Due.is("at an edge", 1, edge.item(50, 700));
        JamRules plant = Belts.belt(1000);
        plant.plant(1, 300);
        Due.is("below a planted fault", OUTSIDE, plant.item(50, 299));
        Due.is("at a planted fault", 1, plant.item(50, 300));
        Due.is("least", OUTSIDE, plant.item(50, Long.MIN_VALUE));
        JamRules ahead = Belts.belt(1000);
        ahead.item(50, 5000);
        Due.is("an item is no time of the clock", 1, ahead.plant(1, 0));
    }

    private static void itemTimeLatest() {
        Due.about("3: t above 10^9");
        JamRules x = Belts.belt(1000);
        Due.is("10^9 + 1", OUTSIDE, x.item(50, LATEST + 1));
        Due.is("greatest", OUTSIDE, x.item(50, Long.MAX_VALUE));
        Due.is("2^32", OUTSIDE, x.item(50, 4294967296L));
        Due.is("10^9", 1, x.item(50, LATEST));
        Due.is("none behind it", OUTSIDE, x.item(50, LATEST));
        Due.is("none behind it", OUTSIDE, x.item(50, LATEST + 80));
    }

    private static void itemBehindTheOneBefore() {
        Due.about("3: 30 and the length behind the item before");
        JamRules x = Belts.belt(1000);
        x.item(50, 10);
        Due.is("at its own time", OUTSIDE, x.item(1000, 10));
        Due.is("29 and its length", OUTSIDE, x.item(1000, 89));
        Due.is("30 and its length", 2, x.item(1000, 90));
        Due.is("29 and the length of the second", OUTSIDE, x.item(50, 1119));
        Due.is("30 and the length of the second", 3, x.item(50, 1120));
        Due.is("a refused one is not the one before", 4, x.item(50, 1200));
    }

    private static void itemBehindOneThatIsGone() {
        Due.about("3: the item before, though it is off or has left");
        JamRules off = Belts.belt(1000);
        off.item(50, 5000);
        off.plant(6, 0);
        Belts.clear(off, 1);
        Due.is("29", OUTSIDE, off.item(50, 5079));
        Due.is("30", 2, off.item(50, 5080));
        JamRules left = Belts.belt(100);
        left.item(1000, 0);
        left.edge(0, true, 100);
        Due.is("short", 1, left.edge(0, false, 150));
        Due.is("29", OUTSIDE, left.item(50, 1029));
        Due.is("30", 2, left.item(50, 1030));
    }

    private static void itemWhileStanding() {
        Due.about("3: the belt stands");
        JamRules x = Belts.belt(1000);
        x.plant(6, 0);
        Due.is("by a stop", STATE, x.item(50, 0));
        x.step(1, 4);
        Due.is("half cleared", STATE, x.item(50, 0));
        x.step(1, 5);
        Due.is("cleared", 1, x.item(50, 0));
        for (int f = 2; f <= 6; f++) {
            x.plant(4, 0);
        }
        Due.is("with 5", 2, x.item(50, 80));
        x.plant(4, 0);
        Due.is("with 6", STATE, x.item(50, 160));
    }

    private static void itemWithoutSensor() {
        Due.about("3: there is no sensor");
        JamRules x = new JamRules();
        Due.is("none", STATE, x.item(50, 0));
        x.sensor(99);
        Due.is("one was refused", STATE, x.item(50, 0));
        x.sensor(100);
        Due.is("one", 1, x.item(50, 0));
    }

    private static void itemRoom() {
        Due.about("3: 60 items at most");
        JamRules x = Belts.belt(1000);
        for (int i = 1; i <= 60; i++) {
            Due.is("item " + i, i, x.item(50, 80L * i));
        }
        Due.is("one more", ROOM, x.item(50, 4880));
        Due.is("no item 61", UNKNOWN, x.feed(61));
        Due.is("item 60", STATE, x.feed(60));
        x.plant(6, 0);
        Belts.clear(x, 1);
        for (int i = 1; i <= 60; i++) {
            x.feed(i);
        }
        Due.is("no room, though all were fed", ROOM, x.item(50, 4880));
    }

    // ---- promise 4 ----

    private static void edgeSensor() {
        Due.about("4: no such sensor");
        JamRules x = Belts.belt(1000, 2000);
        for (int s : new int[] {LEAST, -1, 2, 8, MOST}) {
            Due.is("dark " + s, UNKNOWN, x.edge(s, true, 0));
            Due.is("light " + s, UNKNOWN, x.edge(s, false, 0));
        }
        Due.is("sensor 1", 1, x.edge(1, true, 0));
        Due.is("sensor 0", 2, x.edge(0, true, 0));
    }

    private static void edgeTimeAndClock() {
        Due.about("4: t is below the clock");
        JamRules x = Belts.belt(1000, 2000);
        Due.is("-1", OUTSIDE, x.edge(0, true, -1));
        Due.is("least", OUTSIDE, x.edge(0, true, Long.MIN_VALUE));
        Due.is("0", 1, x.edge(0, true, 0));
        Due.is("at the clock", 0, x.edge(0, false, 0));
        Due.is("dark at 50", 2, x.edge(1, true, 50));
        Due.is("below a dark edge", OUTSIDE, x.edge(1, false, 49));
        Due.is("light at 60", 0, x.edge(1, false, 60));
        Due.is("below a light edge", OUTSIDE, x.edge(0, true, 59));
        x.plant(4, 70);
        Due.is("below a planted fault", OUTSIDE, x.edge(0, true, 69));
        Due.is("at a planted fault", 4, x.edge(0, true, 70));
    }

    private static void edgeTimeLatest() {
        Due.about("4: t above 10^9");
        JamRules x = Belts.belt(1000);
        Due.is("10^9 + 1", OUTSIDE, x.edge(0, true, LATEST + 1));
        Due.is("2^32", OUTSIDE, x.edge(0, true, 4294967296L));
        Due.is("greatest", OUTSIDE, x.edge(0, true, Long.MAX_VALUE));
        Due.is("10^9", 1, x.edge(0, true, LATEST));
        Due.is("10^9 again", 0, x.edge(0, false, LATEST));
        Due.is("10^9 + 1", OUTSIDE, x.edge(0, true, LATEST + 1));
        Due.is("its time", LATEST, x.alarm(0, 4));
    }

    private static void edgeWhileStanding() {
        Due.about("4: the belt stands");
        JamRules x = Belts.belt(1000);
        x.plant(6, 0);
        Due.is("dark", STATE, x.edge(0, true, 0));
        Due.is("light", STATE, x.edge(0, false, 0));
        Due.is("not counted", 0, x.count(0));
        Belts.clear(x, 1);
        Due.is("cleared", 2, x.edge(0, true, 0));
        for (int f = 3; f <= 7; f++) {
            Due.is("planted", f, x.plant(4, 0));
        }
        Due.is("with 6", STATE, x.edge(0, false, 0));
        x.step(2, 1);
        Due.is("with 5", 0, x.edge(0, false, 0));
    }

    private static void edgeAsItIs() {
        Due.about("4: the sensor is so already");
        JamRules x = Belts.belt(1000, 2000);
        Due.is("light at first", STATE, x.edge(0, false, 0));
        Due.is("dark", 1, x.edge(0, true, 0));
        Due.is("dark again", STATE, x.edge(0, true, 5));
        Due.is("the other is light", STATE, x.edge(1, false, 5));
        Due.is("light", 0, x.edge(0, false, 3));
        Due.is("light again", STATE, x.edge(0, false, 5));
        Due.is("one edge is counted", 1, x.count(0));
    }

    // ---- promises 5 and 6 ----

    private static void doubtFault() {
        Due.about("5: no such fault");
        JamRules x = Belts.belt(1000);
        Due.is("none yet", UNKNOWN, x.doubt(1, 0));
        x.plant(1, 0);
        x.plant(1, 0);
        for (int fault : new int[] {LEAST, -1, 0, 3, 41, MOST}) {
            Due.is("fault " + fault, UNKNOWN, x.doubt(fault, 0));
        }
        Due.is("fault 1", -1, x.doubt(1, 0));
        Due.is("fault 2", -1, x.doubt(2, 0));
        x.step(1, 1);
        Due.is("a cleared one", -1, x.doubt(1, 0));
    }

    private static void doubtEmptyAndFull() {
        Due.about("5: the i-th, 0 the first");
        JamRules x = Belts.belt(100000);
        Due.is("nobody there", 1, x.edge(0, true, 0));
        Due.row("nobody", new int[] {}, i -> x.doubt(1, i));
        x.edge(0, false, 0);
        Belts.items(x, 60, 50, 0);
        Due.is("all there", 2, x.edge(0, true, 80 * 59));
        int[] all = new int[60];
        for (int i = 0; i < 60; i++) {
            all[i] = i + 1;
        }
        Due.row("all", all, i -> x.doubt(2, i));
        Due.is("least", -1, x.doubt(2, LEAST));
        Due.is("greatest", -1, x.doubt(2, MOST));
        Due.is("64 is not 0", -1, x.doubt(2, 64));
        Due.row("nobody yet", new int[] {}, i -> x.doubt(1, i));
    }

    private static void causeFault() {
        Due.about("6: no such fault");
        JamRules x = Belts.belt(1000);
        Due.is("none yet", UNKNOWN, x.cause(1));
        x.plant(6, 0);
        for (int fault : new int[] {LEAST, -1, 0, 2, 41, MOST}) {
            Due.is("fault " + fault, UNKNOWN, x.cause(fault));
        }
        Due.is("fault 1", 60, x.cause(1));
        Belts.clear(x, 1);
        Due.is("a cleared one", 60, x.cause(1));
        JamRules full = new JamRules();
        Belts.plantedUpTo(full, 40, 0);
        Due.is("fault 40", 94, full.cause(40));
        full.plant(1, 0);
        Due.is("fault 41", UNKNOWN, full.cause(41));
    }

    // ---- promise 7 ----

    private static void stepFault() {
        Due.about("7: no such fault");
        JamRules x = new JamRules();
        Due.is("none yet", UNKNOWN, x.step(1, 1));
        x.plant(1, 0);
        for (int fault : new int[] {LEAST, -1, 0, 2, 41, MOST}) {
            Due.is("fault " + fault, UNKNOWN, x.step(fault, 1));
        }
        Due.is("fault 1", 1, x.step(1, 1));
    }

    private static void stepKind() {
        Due.about("7: a step 1 .. 5");
        JamRules x = new JamRules();
        x.plant(5, 0);
        for (int kind : new int[] {LEAST, -1, 0, 6, MOST}) {
            Due.is("step " + kind, OUTSIDE, x.step(1, kind));
        }
        Due.is("1 is not the next", 0, x.step(1, 1));
        Due.is("5 is not the next", 0, x.step(1, 5));
        Due.is("4 is", 1, x.step(1, 4));
        Due.is("4 is no more", 0, x.step(1, 4));
        Due.is("5 is not yet", 0, x.step(1, 5));
        Due.is("3 is", 1, x.step(1, 3));
        Due.is("6 is none", OUTSIDE, x.step(1, 6));
        Due.is("5 is", 1, x.step(1, 5));
    }

    private static void stepCleared() {
        Due.about("7: it is cleared");
        for (int kind = 1; kind <= 6; kind++) {
            JamRules x = new JamRules();
            x.plant(kind, 0);
            Belts.clear(x, 1);
            for (int step = 1; step <= 5; step++) {
                Due.is("kind " + kind + ", step " + step, STATE, x.step(1, step));
            }
            Due.is("the next one", 2, x.plant(4, 0));
            Due.is("its step", 1, x.step(2, 1));
        }
    }

    private static void stepBeforeItsTurn() {
        Due.about("7: one before it is not");
        JamRules x = new JamRules();
        x.plant(2, 0);
        x.plant(4, 0);
        x.plant(5, 0);
        for (int step = 1; step <= 5; step++) {
            Due.is("2, step " + step, STATE, x.step(2, step));
            Due.is("3, step " + step, STATE, x.step(3, step));
        }
        x.step(1, 1);
        Due.is("half of 1", STATE, x.step(2, 1));
        x.step(1, 2);
        Due.is("3 waits for 2", STATE, x.step(3, 4));
        Due.is("2", 1, x.step(2, 1));
        Due.is("3", 1, x.step(3, 4));
        Due.is("1 is cleared", STATE, x.step(1, 1));
    }

    // ---- promises 8 and 9 ----

    private static void feedItem() {
        Due.about("8: no such item");
        JamRules x = Belts.belt(1000);
        Due.is("none yet", UNKNOWN, x.feed(1));
        Belts.items(x, 2, 50, 0);
        for (int item : new int[] {LEAST, -1, 0, 3, 61, MOST}) {
            Due.is("item " + item, UNKNOWN, x.feed(item));
        }
        x.plant(6, 0);
        Belts.clear(x, 1);
        Due.is("item 2", 1, x.feed(2));
        Due.is("item 1", 1, x.feed(1));
        Due.is("item 3", UNKNOWN, x.feed(3));
    }

    private static void feedOffTheList() {
        Due.about("8: it is not on the list");
        JamRules x = Belts.belt(1000);
        Belts.items(x, 2, 50, 0);
        Due.is("on the belt", STATE, x.feed(1));
        x.edge(0, true, 1000);
        x.edge(0, false, 1050);
        Due.is("it has left", STATE, x.feed(1));
        Due.is("lost", 1, x.edge(0, true, 1500));
        Due.is("off, not cleared", STATE, x.feed(2));
        Belts.clear(x, 1);
        Due.is("on the list", 1, x.feed(2));
        Due.is("the one that has left", STATE, x.feed(1));
    }

    private static void feedTwice() {
        Due.about("8: 0 if it was before");
        JamRules x = Belts.belt(1000);
        Belts.items(x, 2, 50, 0);
        x.plant(6, 0);
        Belts.clear(x, 1);
        Due.is("first", 1, x.feed(1));
        Due.is("again", 0, x.feed(1));
        Due.is("again", 0, x.feed(1));
        Due.row("the other stays", new int[] {2}, x::listed);
        x.plant(6, 0);
        Due.is("while the belt stands", 0, x.feed(1));
        Due.is("while the belt stands", 1, x.feed(2));
        Belts.clear(x, 2);
        Due.row("nobody", new int[] {}, x::listed);
    }

    private static void listedEmptyAndFull() {
        Due.about("9: the i-th, 0 first");
        JamRules x = Belts.belt(1000);
        Due.row("nothing there yet", new int[] {}, x::listed);
        Belts.items(x, 60, 50, 0);
        x.plant(6, 0);
        Belts.clear(x, 1);
        int[] all = new int[60];
        for (int i = 0; i < 60; i++) {
            all[i] = i + 1;
        }
        Due.row("all", all, x::listed);
        Due.is("least", -1, x.listed(LEAST));
        Due.is("greatest", -1, x.listed(MOST));
        x.feed(60);
        Due.is("without the last", 59, x.listed(58));
        Due.is("without the last", -1, x.listed(59));
        x.feed(1);
        Due.is("without the first", 2, x.listed(0));
        Due.is("without the first", -1, x.listed(58));
        for (int i = 2; i <= 59; i++) {
            x.feed(i);
        }
        Due.row("empty again", new int[] {}, x::listed);
    }

    // ---- promise 10 ----

    private static void ruleKind() {
        Due.about("10: kind 1 .. 6");
        JamRules x = new JamRules();
        for (int kind : new int[] {LEAST, -1, 0, 7, MOST}) {
            Due.is("kind " + kind, OUTSIDE, x.rule(kind, 1, true));
        }
        Due.is("kind 1", 0, x.rule(1, 1, false));
        Due.is("kind 6", 1, x.rule(6, 0, false));
        Due.is("kind 1 again", 1, x.rule(1, 1, false));
        Due.is("kind 6 again", 0, x.rule(6, 0, false));
    }

    private static void ruleDoes() {
        Due.about("10: does 0 .. 1");
        JamRules x = new JamRules();
        for (int does : new int[] {LEAST, -1, 2, MOST}) {
            Due.is("does " + does, OUTSIDE, x.rule(1, does, true));
            Due.is("does " + does, OUTSIDE, x.rule(5, does, false));
        }
        Due.is("it was 0", 0, x.rule(1, 0, false));
        Due.is("it was 1", 1, x.rule(5, 1, false));
        x.plant(1, 0);
        Due.is("it does not throw", 2, x.alarm(0, 1));
        Due.is("it does not stop", true, x.goesOn());
    }

    // ---- promise 11 ----

    private static void plantKind() {
        Due.about("11: kind 1 .. 6");
        JamRules x = new JamRules();
        for (int kind : new int[] {LEAST, -1, 0, 7, MOST}) {
            Due.is("kind " + kind, OUTSIDE, x.plant(kind, 0));
        }
        Due.is("kind 1", 1, x.plant(1, 0));
        Due.is("its kind", 1, x.alarm(0, 2));
        Due.is("kind 6", 2, x.plant(6, 0));
        Due.is("its kind", 6, x.alarm(0, 2));
    }

    private static void plantTime() {
        Due.about("11: t as with edge()");
        JamRules x = Belts.belt(1000);
        Due.is("-1", OUTSIDE, x.plant(4, -1));
        Due.is("least", OUTSIDE, x.plant(4, Long.MIN_VALUE));
        Due.is("0", 1, x.plant(4, 0));
        x.edge(0, true, 40);
        Due.is("below an edge", OUTSIDE, x.plant(4, 39));
        Due.is("at an edge", 3, x.plant(4, 40));
        Due.is("later", 4, x.plant(4, 41));
        Due.is("below a planted fault", OUTSIDE, x.plant(4, 40));
        Due.is("10^9 + 1", OUTSIDE, x.plant(4, LATEST + 1));
        Due.is("2^32", OUTSIDE, x.plant(4, 4294967296L));
        Due.is("greatest", OUTSIDE, x.plant(4, Long.MAX_VALUE));
        Due.is("10^9", 5, x.plant(4, LATEST));
        Due.is("its time", LATEST, Belts.told(x, 5, 4, -1));
    }

    private static void plantWhileStanding() {
        Due.about("11: the belt stands");
        JamRules x = new JamRules();
        x.plant(5, 0);
        Due.is("by a jam", STATE, x.plant(1, 0));
        Belts.clear(x, 1);
        for (int f = 2; f <= 7; f++) {
            Due.is("as many as may be", f, x.plant(4, 0));
        }
        Due.is("with 6", STATE, x.plant(4, 0));
        x.step(2, 1);
        Due.is("with 5", 8, x.plant(4, 0));
    }

    private static void plantRoom() {
        Due.about("11: 0 if there were 40");
        JamRules x = new JamRules();
        Belts.plantedUpTo(x, 39, 0);
        Due.is("the 40th", 40, x.plant(6, 0));
        Due.is("the belt stands", STATE, x.plant(6, 0));
        Belts.clear(x, 40);
        for (int kind = 1; kind <= 6; kind++) {
            x.rule(kind, 0, true);
            Due.is("the 41st of kind " + kind, 0, x.plant(kind, 0));
            Due.is("its rule was not asked", 0, x.rule(kind, 0, false));
        }
        Due.is("it runs", true, x.goesOn());
        Due.is("no fault 41", UNKNOWN, x.cause(41));
        Due.is("no alarm", -1, x.alarm(0, 0));
    }

    // ---- promises 12 to 14 ----

    private static void alarmWhat() {
        Due.about("12: what 0 .. 4");
        JamRules x = new JamRules();
        for (int what : new int[] {LEAST, -1, 5, MOST}) {
            Due.is("none there, what " + what, OUTSIDE, x.alarm(0, what));
        }
        x.plant(2, 7);
        for (int what : new int[] {LEAST, -1, 5, MOST}) {
            Due.is("what " + what, OUTSIDE, x.alarm(0, what));
        }
        Due.is("what 0", 1, x.alarm(0, 0));
        Due.is("what 4", 7, x.alarm(0, 4));
    }

    private static void alarmEmptyAndFull() {
        Due.about("12: there is none such");
        JamRules x = Belts.belt(1000);
        for (int what = 0; what <= 4; what++) {
            Due.is("none yet, " + what, -1, x.alarm(0, what));
        }
        for (int f = 1; f <= 6; f++) {
            x.plant(4, f);
        }
        for (int what = 0; what <= 4; what++) {
            for (int i : new int[] {LEAST, -1, 6, 40, MOST}) {
                Due.is("alarm(" + i + ", " + what + ")", -1, x.alarm(i, what));
            }
        }
        Due.is("the first", 1, x.alarm(0, 0));
        Due.is("the last", 6, x.alarm(5, 0));
        for (int f = 1; f <= 6; f++) {
            x.step(f, 1);
            Due.is("the last", f == 6 ? -1 : 6, x.alarm(5 - f, 0));
            Due.is("behind it", -1, x.alarm(6 - f, 0));
        }
        Due.is("none left", -1, x.alarm(0, 0));
    }

    private static void countSensor() {
        Due.about("13: no such sensor");
        JamRules x = Belts.belt(1000, 2000);
        for (int s : new int[] {LEAST, -1, 2, 8, MOST}) {
            Due.is("sensor " + s, UNKNOWN, x.count(s));
        }
        Due.is("sensor 0", 0, x.count(0));
        Due.is("sensor 1", 0, x.count(1));
        for (int n = 1; n <= 100; n++) {
            x.step(n, 1);
            x.edge(1, true, n);
            x.edge(1, false, n);
            x.step(n, 1);
        }
        Due.is("100 edges, with more than 40 strangers", 100, x.count(1));
        Due.is("the other", 0, x.count(0));
    }

    private static void goesOnWithFiveAndSix() {
        Due.about("14: whether the belt runs");
        JamRules x = new JamRules();
        for (int f = 1; f <= 5; f++) {
            x.plant(4, 0);
            Due.is(f + " are not cleared", true, x.goesOn());
        }
        x.plant(4, 0);
        Due.is("6 are not", false, x.goesOn());
        x.step(1, 1);
        Due.is("5 are not", true, x.goesOn());
        x.plant(6, 0);
        for (int f = 2; f <= 6; f++) {
            x.step(f, 1);
            Due.is("one that stops is not", false, x.goesOn());
        }
        x.step(7, 4);
        Due.is("its last step is not done", false, x.goesOn());
        x.step(7, 5);
        Due.is("all are", true, x.goesOn());
    }
}

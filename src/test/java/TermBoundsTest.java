/** The boundary cases that the document names under "Terms", sentence by sentence. */
public final class TermBoundsTest {
    private static final int UNKNOWN = Belts.UNKNOWN, OUTSIDE = Belts.OUTSIDE, STATE = Belts.STATE;
    private static final int STRANGER = Belts.STRANGER, LOST = Belts.LOST, DOUBLE = Belts.DOUBLE;
    private static final int SHORT = Belts.SHORT, JAM = Belts.JAM, STOP = Belts.STOP;
    private static final long LATEST = Belts.LATEST;

    public static void main(String[] args) {
        lightAtFirst();
        dueAtTheEndOfTime();
        dueAtTheFarthestPlace();
        leftBehindTheLastSensor();
        clockOfEdgesAndPlantedFaults();

        jamByAnItem();
        jamByAStranger();
        jamInTheOrderOfSensors();
        jamOfThisSensor();
        jamOnce();
        jamThatStops();
        jamThatIsTheSixth();
        lostThatStops();
        lostAtSixteen();
        lostOneByOne();
        lostAreOnTheBeltAndNotSeen();
        seenAtFifteen();
        seenIsTheLeastLeft();
        strangerOnAnEmptyBelt();
        doubleAtSixteen();
        shortAtSixteen();
        lengthOfOneThatIsOff();
        doubleAndTheNextAtFifteen();
        doubleWithNobodyNext();
        doubleTakesTheLeastOnly();

        faultNumbers();
        beyondFortyNothingIsAsked();
        beyondFortyItemsAreOff();
        beyondFortyInTheMidstOfAnEdge();
        doubtAtSensorZero();
        doubtAtALaterSensor();
        doubtOfWhatIsDarkBy();
        doubtBeforeWhatIsOff();

        rulesAtFirst();
        ruleThatThrows();
        standsWithSix();
        ranks();
        causePlanted();
        causeTenThousandBefore();
        causeAtTheSameSensor();
        causeOfStops();
        causeThatThrew();

        stepsInOrder();
        clearedInOrder();
        clearedThatStops();
        clearedThatDoesNotStop();
        sixUnclearedAreNoStop();
        listOrder();
        listNoneTwice();
        countsAtStepFive();
        Due.end();
    }

    // ---- THE BELT ----

    private static void lightAtFirst() {
        Due.about("light at first, with counts of edges 0");
        JamRules x = Belts.belt(100, 200, 300, 400, 500, 600, 700, 800);
        for (int s = 0; s < 8; s++) {
            Due.is("light", STATE, x.edge(s, false, 0));
            Due.is("count", 0, x.count(s));
        }
    }

    private static void dueAtTheEndOfTime() {
        Due.about("due at that time and the place, near 10^9");
        for (int late = 14; late <= 16; late++) {
            JamRules x = Belts.belt(1000);
            x.item(50, LATEST - 1000 + late);
            Due.is("due " + late + " behind 10^9", late <= 15 ? 0 : 1, x.edge(0, true, LATEST));
        }
        JamRules never = Belts.belt(100000);
        never.item(1000, LATEST);
        Due.is("a stranger", 1, never.edge(0, true, LATEST));
        Belts.kinds(never, 1, STRANGER);
        Due.row("its head has come", new int[] {1}, i -> never.doubt(1, i));
    }

    private static void dueAtTheFarthestPlace() {
        Due.about("due at the farthest place");
        JamRules x = Belts.belt(100, 100000);
        x.item(1000, 7);
        Due.is("sensor 0", 0, x.edge(0, true, 107));
        Due.is("sensor 0", 0, x.edge(0, false, 1107));
        Due.is("sensor 1", 0, x.edge(1, true, 100022));
        Due.is("sensor 1", 0, x.edge(1, false, 101022));
    }

    private static void leftBehindTheLastSensor() {
        Due.about("on the belt, until the last sensor has done with it");
        JamRules dark = Belts.belt(1000, 1100);
        dark.item(100, 0);
        dark.edge(0, true, 1000);
        dark.edge(0, false, 1100);
        dark.edge(1, true, 1100);
        dark.plant(STOP, 1150);
        Belts.clear(dark, 1);
        Due.row("it is dark by it yet", new int[] {1}, dark::listed);
        JamRules done = Belts.belt(1000, 1100);
        done.item(100, 0);
        done.edge(0, true, 1000);
        done.edge(0, false, 1100);
        done.edge(1, true, 1100);
        done.edge(1, false, 1200);
        done.plant(STOP, 1200);
        Belts.clear(done, 1);
        Due.row("it has left", new int[] {}, done::listed);
        Due.is("not on the list", STATE, done.feed(1));
        JamRules unseen = Belts.belt(1000, 1100);
        unseen.item(100, 0);
        unseen.edge(1, true, 1100);
        unseen.edge(1, false, 1200);
        Due.is("sensor 0 does not lose what has left", 1, unseen.edge(0, true, 3000));
        Belts.kinds(unseen, 1, STRANGER);
    }

    private static void clockOfEdgesAndPlantedFaults() {
        Due.about("the clock is the time of the latest edge or planted fault");
        JamRules x = Belts.belt(1000, 2000);
        Due.is("0 at first", OUTSIDE, x.plant(SHORT, -1));
        x.item(50, 900);
        Due.is("an item is none", 1, x.edge(0, true, 10));
        Due.is("dark", OUTSIDE, x.plant(SHORT, 9));
        x.edge(0, false, 20);
        Due.is("light", OUTSIDE, x.plant(SHORT, 19));
        x.edge(0, false, 90);
        x.edge(5, true, 90);
        x.plant(0, 90);
        x.rule(1, 0, false);
        x.step(1, 1);
        Due.is("refused edges, rules and steps are none", 2, x.plant(SHORT, 20));
        x.plant(SHORT, 30);
        Due.is("planted", OUTSIDE, x.edge(0, true, 29));
        Due.is("planted", 4, x.edge(0, true, 30));
        Due.is("an edge that a jam cuts off", 5, x.edge(1, true, 531));
        Belts.kinds(x, 2, SHORT, SHORT, STRANGER, JAM);
        Due.is("is one, too", OUTSIDE, x.edge(1, true, 530));
    }

    // ---- AN EDGE: jams ----

    private static void jamByAnItem() {
        Due.about("dark since more than 500 and the length of the item");
        for (long length : new long[] {50, 100, 1000}) {
            JamRules x = Belts.belt(1000, 50000);
            x.item(length, 0);
            x.edge(0, true, 1005);
            Due.is("500 and " + length, 1, x.edge(1, true, 1505 + length));
            Belts.kinds(x, 1, STRANGER);
            Due.is("501 and " + length, 2, x.edge(1, false, 1506 + length));
            Belts.kinds(x, 1, STRANGER, JAM);
            Due.is("its sensor", 0, x.alarm(0, 3));
            Due.is("its time", 1506 + length, x.alarm(0, 4));
        }
    }

    private static void jamByAStranger() {
        Due.about("500, if it is a stranger");
        JamRules x = Belts.belt(1000, 50000);
        x.edge(0, true, 3);
        Due.is("500", 2, x.edge(1, true, 503));
        Belts.kinds(x, 1, STRANGER, STRANGER);
        Due.is("501", 3, x.edge(1, false, 504));
        Belts.kinds(x, 1, STRANGER, STRANGER, JAM);
    }

    private static void jamInTheOrderOfSensors() {
        Due.about("by the sensors in order");
        JamRules x = Belts.belt(1000, 2000, 3000, 4000);
        x.rule(JAM, 0, false);
        x.edge(3, true, 0);
        x.edge(1, true, 1);
        x.edge(0, true, 2);
        Due.is("the longest dark one is the last", 4, x.edge(2, true, 502));
        Due.is("sensor 1", 1, Belts.told(x, 4, 3, -9));
        Due.is("sensor 3", 3, Belts.told(x, 5, 3, -9));
        Belts.kinds(x, 1, STRANGER, STRANGER, STRANGER, JAM, JAM, STRANGER);
    }

    private static void jamOfThisSensor() {
        Due.about("also this one");
        JamRules x = Belts.belt(1000);
        x.item(100, 0);
        x.edge(0, true, 1000);
        Due.is("a jam", 1, x.edge(0, false, 1601));
        Belts.kinds(x, 1, JAM);
        Due.row("in doubt", new int[] {1}, i -> x.doubt(1, i));
        JamRules before = Belts.belt(1000);
        before.item(100, 0);
        before.edge(0, true, 1000);
        Due.is("no jam yet", 1, before.edge(0, false, 1600));
        Belts.kinds(before, 1, DOUBLE);
        JamRules light = Belts.belt(1000);
        light.edge(0, true, 0);
        light.edge(0, false, 10);
        Due.is("one that is light tells none", 2, light.edge(0, true, 5000));
        Belts.kinds(light, 1, STRANGER, STRANGER);
    }

    private static void jamOnce() {
        Due.about("once while it is dark");
        JamRules x = Belts.belt(1000, 2000);
        x.rule(JAM, 0, false);
        x.edge(0, true, 0);
        Due.is("told", 2, x.edge(1, true, 501));
        Due.is("not again", 0, x.edge(1, false, 502));
        Belts.clear(x, 1);
        Belts.clear(x, 2);
        Due.is("nor when it is cleared", 4, x.edge(1, true, 900));
        Belts.kinds(x, 3, STRANGER, STRANGER);
        Due.is("the other's is due", 0, x.edge(0, false, 1400));
        Due.is("dark anew", 5, x.edge(0, true, 1400));
        Due.is("the other's comes", 6, x.edge(1, false, 1401));
        Due.is("told anew", 7, x.edge(1, true, 1901));
        Belts.kinds(x, 3, STRANGER, STRANGER, STRANGER, JAM, JAM, STRANGER);
    }

    private static void jamThatStops() {
        Due.about("if the belt stands by that, nothing else is done");
        JamRules x = Belts.belt(1000, 2000);
        x.item(100, 0);
        x.item(100, 500);
        x.edge(0, true, 1000);
        Due.is("at 1", 1, x.edge(1, true, 3000));
        Belts.kinds(x, 1, JAM);
        Due.is("its count stays", 0, x.count(1));
        Due.row("nobody is lost before", new int[] {1, 2}, i -> x.doubt(1, i));
        Due.is("stands", STATE, x.edge(1, true, 3000));
        Belts.clear(x, 1);
        Due.row("nobody was lost", new int[] {1, 2}, x::listed);
        Due.is("the sensor stayed light", STATE, x.edge(1, false, 3000));

        JamRules own = Belts.belt(1000);
        own.item(100, 0);
        own.item(100, 500);
        own.edge(0, true, 1000);
        Due.is("no double", 1, own.edge(0, false, 1700));
        Belts.kinds(own, 1, JAM);
        Due.is("count", 1, own.count(0));
    }

    private static void jamThatIsTheSixth() {
        Due.about("the belt stands by a jam that is one too many");
        JamRules x = Belts.belt(1000, 2000);
        x.rule(JAM, 0, false);
        x.edge(0, true, 0);
        for (int f = 2; f <= 5; f++) {
            x.plant(SHORT, 0);
        }
        Due.is("the sixth", 6, x.edge(1, true, 501));
        Due.is("no edge", 0, x.count(1));
        Due.is("stands", false, x.goesOn());
        Belts.clear(x, 1);
        Due.is("sensor 1 stayed light", STATE, x.edge(1, false, 501));
        Due.is("sensor 0 stayed dark", STATE, x.edge(0, true, 501));
        Due.is("a fifth does not stand", 7, x.edge(1, true, 501));
        Due.is("counted", 1, x.count(1));
    }

    // ---- AN EDGE: dark ----

    private static void lostThatStops() {
        Due.about("by a lost one that stops the belt all that follows is done");
        JamRules x = Belts.belt(1000, 2000);
        x.rule(LOST, 1, false);
        x.item(100, 0);
        x.item(100, 200);
        Due.is("lost", 1, x.edge(0, true, 1200));
        Belts.kinds(x, 1, LOST);
        Due.is("stands", false, x.goesOn());
        Due.is("counted", 1, x.count(0));
        Due.is("dark", STATE, x.edge(0, true, 1200));
        JamRules stranger = Belts.belt(1000, 2000);
        stranger.rule(LOST, 1, false);
        stranger.item(100, 0);
        Due.is("lost", 1, stranger.edge(0, true, 1200));
        Belts.kinds(stranger, 1, LOST, STRANGER);
        JamRules sixth = Belts.belt(1000);
        for (int f = 1; f <= 5; f++) {
            sixth.plant(SHORT, 0);
        }
        Belts.items(sixth, 3, 50, 0);
        Due.is("the sixth, the seventh, the eighth", 6, sixth.edge(0, true, 1120));
        Belts.kinds(sixth, 6, LOST, LOST, STRANGER);
        Due.is("stands", false, sixth.goesOn());
    }

    private static void lostAtSixteen() {
        Due.about("due 16 or more before");
        int[][] rows = {{14, 0}, {15, 0}, {16, LOST}, {17, LOST}};
        for (int[] row : rows) {
            JamRules x = Belts.belt(1000);
            x.item(100, 3);
            x.edge(0, true, 1003 + row[0]);
            Due.is(row[0] + " before", row[1], Belts.kind(x, 1));
        }
        JamRules late = Belts.belt(100);
        late.item(50, 0);
        Due.is("very late", 1, late.edge(0, true, LATEST));
        Belts.kinds(late, 1, LOST, STRANGER);
    }

    private static void lostOneByOne() {
        Due.about("the least one first, one by one");
        JamRules x = Belts.belt(1000);
        Belts.items(x, 4, 50, 0);
        Due.is("the first is lost, the second seen", 1, x.edge(0, true, 1065));
        Belts.kinds(x, 1, LOST);
        x.edge(0, false, 1115);
        Due.is("the third and the fourth are left", 2, x.edge(0, true, 1256));
        Belts.kinds(x, 1, LOST, LOST, LOST, STRANGER);
        Due.row("of the third", new int[] {3, 4}, i -> x.doubt(2, i));
        Due.row("of the fourth", new int[] {4}, i -> x.doubt(3, i));
        Due.row("of the stranger", new int[] {}, i -> x.doubt(4, i));

        JamRules all = Belts.belt(100);
        Belts.items(all, 60, 50, 0);
        Due.is("60 lost, 40 are faults", 1, all.edge(0, true, 20000));
        Due.is("the 40th", 20, all.cause(1));
        Due.is("the 40th", 21, all.cause(40));
        Due.is("no 41st", UNKNOWN, all.cause(41));
        Due.is("the 40th of 60", 40, all.doubt(40, 0));
        Due.is("the 60th of 60", 60, all.doubt(40, 20));
        Due.is("no more", -1, all.doubt(40, 21));
    }

    private static void lostAreOnTheBeltAndNotSeen() {
        Due.about("an item on the belt that it has not seen");
        JamRules x = Belts.belt(1000, 2000);
        Belts.items(x, 3, 50, 0);
        x.edge(0, true, 1000);
        x.edge(0, false, 1050);
        x.edge(0, true, 1096);
        Belts.kinds(x, 1, LOST, STRANGER);
        x.edge(0, false, 1100);
        Due.is("seen and off ones are not lost again", 3, x.edge(0, true, 1400));
        Belts.kinds(x, 1, LOST, STRANGER, LOST, STRANGER);
        Due.row("the third alone", new int[] {3}, i -> x.doubt(3, i));
        Due.is("a jam cuts off what the second sensor would lose", 5, x.edge(1, true, 2100));
        Belts.kinds(x, 1, LOST, STRANGER, LOST, STRANGER, JAM);
        JamRules two = Belts.belt(1000, 2000);
        two.item(50, 0);
        two.edge(0, true, 1000);
        two.edge(0, false, 1050);
        Due.is("one that the sensor before has seen", 1, two.edge(1, true, 2016));
        Belts.kinds(two, 1, LOST, STRANGER);
    }

    private static void seenAtFifteen() {
        Due.about("due at most 15 before or behind");
        int[][] rows = {{-17, STRANGER}, {-16, STRANGER}, {-15, 0}, {-14, 0}, {0, 0}, {14, 0}, {15, 0}};
        for (int[] row : rows) {
            JamRules x = Belts.belt(1000);
            x.item(100, 40);
            x.edge(0, true, 1040 + row[0]);
            Due.is("at " + row[0], row[1], Belts.kind(x, 1));
            if (row[1] == 0) {
                Due.is("dark by it", 1, x.edge(0, false, 1040 + row[0] + 84));
                Belts.kinds(x, 1, SHORT);
            }
        }
    }

    private static void seenIsTheLeastLeft() {
        Due.about("the least one that is left");
        JamRules x = Belts.belt(1000, 2000);
        x.item(50, 0);
        x.item(1000, 80);
        Due.is("15 late of the first", 0, x.edge(0, true, 1015));
        Due.is("as long as the first", 0, x.edge(0, false, 1065));
        Due.is("15 early of the second", 0, x.edge(0, true, 1065));
        Due.is("as long as the second", 0, x.edge(0, false, 2065));
        JamRules far = Belts.belt(1000);
        far.item(50, 0);
        far.item(50, 80);
        Due.is("the first is far, so a stranger", 1, far.edge(0, true, 900));
        Belts.kinds(far, 1, STRANGER);
        Due.is("no length", 0, far.edge(0, false, 901));
    }

    private static void strangerOnAnEmptyBelt() {
        Due.about("otherwise a stranger comes");
        JamRules x = Belts.belt(1000);
        Due.is("no item at all", 1, x.edge(0, true, 0));
        Belts.kinds(x, 1, STRANGER);
        Due.is("its sensor", 0, x.alarm(0, 3));
        Due.is("its time", 0, x.alarm(0, 4));
        Due.is("light without a length", 0, x.edge(0, false, 500));
        JamRules ahead = Belts.belt(1000);
        ahead.item(50, 500);
        Due.is("not due yet", 1, ahead.edge(0, true, 0));
        Due.is("it waits", 0, ahead.edge(0, false, 10));
        Due.is("it comes", 0, ahead.edge(0, true, 1500));
    }

    // ---- AN EDGE: light ----

    private static void doubleAtSixteen() {
        Due.about("dark for 16 or more longer than l");
        for (int length : new int[] {50, 1000}) {
            for (int longer = 0; longer <= 17; longer++) {
                JamRules x = Belts.belt(1000, 3000);
                x.item(length, 0);
                x.edge(0, true, 990);
                Due.is(longer + " longer", longer >= 16 ? 1 : 0, x.edge(0, false, 990 + length + longer));
                Due.is("its kind", longer >= 16 ? DOUBLE : 0, Belts.kind(x, 1));
                Due.is("off", longer >= 16 ? STRANGER : 0, Belts.kind(x, x.edge(1, true, 3000)));
            }
        }
    }

    private static void shortAtSixteen() {
        Due.about("dark for 16 or more shorter than l");
        for (int length : new int[] {50, 1000}) {
            for (int shorter : new int[] {1, 14, 15, 16, 17, 50}) {
                JamRules x = Belts.belt(1000, 3000);
                x.item(length, 0);
                x.edge(0, true, 1010);
                Due.is(shorter + " shorter", shorter >= 16 ? 1 : 0, x.edge(0, false, 1010 + length - shorter));
                Due.is("its kind", shorter >= 16 ? SHORT : 0, Belts.kind(x, 1));
                Due.is("on the belt yet", 0, x.edge(1, true, 3000));
            }
        }
    }

    private static void lengthOfOneThatIsOff() {
        Due.about("it may be off by now");
        JamRules x = Belts.belt(1000, 1100);
        x.item(500, 0);
        x.item(50, 530);
        x.edge(0, true, 1000);
        Due.is("lost at 1", 1, x.edge(1, true, 1116));
        Due.is("15 longer is none", 0, x.edge(0, false, 1515));
        JamRules y = Belts.belt(1000, 1100);
        y.item(500, 0);
        y.item(50, 530);
        y.edge(0, true, 1000);
        y.edge(1, true, 1116);
        Due.is("16 longer is a double", 3, y.edge(0, false, 1516));
        Belts.kinds(y, 1, LOST, STRANGER, DOUBLE);
        Due.row("the next is in doubt", new int[] {2}, i -> y.doubt(3, i));
        for (int f = 1; f <= 3; f++) {
            Belts.clear(y, f);
        }
        Due.row("the first by 1, the next by 3", new int[] {1, 2}, y::listed);
    }

    private static void doubleAndTheNextAtFifteen() {
        Due.about("if it is due 15 behind at the latest");
        for (int behind = 14; behind <= 17; behind++) {
            JamRules x = Belts.belt(1000, 3000);
            x.item(50, 0);
            x.item(50, 80);
            x.edge(0, true, 985);
            Due.is("double", 1, x.edge(0, false, 1080 - behind));
            Due.is("of 16 or more", DOUBLE, Belts.kind(x, 1));
            Due.is("the next is off or is seen", behind <= 15 ? 2 : 0, x.edge(0, true, 1080));
        }
        JamRules overdue = Belts.belt(1000, 3000);
        overdue.item(50, 0);
        overdue.item(50, 80);
        overdue.edge(0, true, 1000);
        Due.is("double", 1, overdue.edge(0, false, 1300));
        Due.is("one that was due long before is off, not lost", 2, overdue.edge(0, true, 1400));
        Belts.kinds(overdue, 1, DOUBLE, STRANGER);
    }

    private static void doubleWithNobodyNext() {
        Due.about("a double with nobody next");
        JamRules x = Belts.belt(1000, 3000);
        x.item(50, 0);
        x.edge(0, true, 1000);
        Due.is("double", 1, x.edge(0, false, 1066));
        Belts.clear(x, 1);
        Due.row("itself alone", new int[] {1}, x::listed);
    }

    private static void doubleTakesTheLeastOnly() {
        Due.about("the least one on the belt that the sensor has not seen");
        JamRules x = Belts.belt(1000, 3000);
        Belts.items(x, 4, 50, 0);
        x.edge(0, true, 1000);
        Due.is("double", 1, x.edge(0, false, 1255));
        Due.row("doubt", new int[] {1, 2, 3, 4}, i -> x.doubt(1, i));
        Belts.clear(x, 1);
        Due.row("the first and the second", new int[] {1, 2}, x::listed);
    }

    // ---- A FAULT ----

    private static void faultNumbers() {
        Due.about("numbered from 1 on, 40 at most");
        JamRules x = Belts.belt(1000);
        for (int f = 1; f <= 40; f++) {
            Due.is("dark", f, x.edge(0, true, f));
            Due.is("light", 0, x.edge(0, false, f));
            Due.is("clear", 1, x.step(f, 1));
        }
        Due.is("one more is none", 0, x.edge(0, true, 50));
        Due.is("no 41", UNKNOWN, x.cause(41));
        Due.is("no step for it", UNKNOWN, x.step(41, 1));
        Due.is("no doubt by it", UNKNOWN, x.doubt(41, 0));
        Due.is("no alarm of it", -1, x.alarm(0, 0));
        Due.is("the edge is counted", 41, x.count(0));
        Due.is("the sensor is dark", STATE, x.edge(0, true, 50));
    }

    private static void beyondFortyNothingIsAsked() {
        Due.about("its rule is not asked, the belt does not stop by it");
        JamRules x = Belts.belt(1000, 2000);
        x.item(100, 0);
        x.item(100, 200);
        x.item(100, 400);
        Belts.plantedUpTo(x, 40, 0);
        for (int kind = 1; kind <= 6; kind++) {
            x.rule(kind, 0, true);
        }
        Due.is("stranger", 0, x.edge(0, true, 500));
        Due.is("light", 0, x.edge(0, false, 510));
        Due.is("seen", 0, x.edge(0, true, 1000));
        Due.is("short", 0, x.edge(0, false, 1010));
        Due.is("lost", 0, x.edge(0, true, 1400));
        Due.is("jam", 0, x.edge(1, true, 2001));
        Due.is("double", 0, x.edge(0, false, 2001));
        Due.is("stop", 0, x.plant(STOP, 2001));
        Due.is("runs", true, x.goesOn());
        for (int kind = 1; kind <= 6; kind++) {
            Due.is("rule of " + kind + " was not asked", 0, x.rule(kind, 0, false));
        }
        Due.is("counts", 3, x.count(0));
        Due.is("a jam cut nothing off", 1, x.count(1));
    }

    private static void beyondFortyItemsAreOff() {
        Due.about("what an edge does to items and sensors is done all the same");
        JamRules x = Belts.belt(1000, 2000);
        Belts.items(x, 4, 50, 0);
        Belts.plantedUpTo(x, 39, 0);
        Due.is("the 40th has all in doubt", 40, x.edge(0, true, 900));
        Due.row("doubt", new int[] {1, 2, 3, 4}, i -> x.doubt(40, i));
        x.edge(0, false, 900);
        Due.is("the first is lost, the second seen", 0, x.edge(0, true, 1080));
        Due.is("a double with the third", 0, x.edge(0, false, 1146));
        Due.is("the third is off", 0, x.edge(0, true, 1160));
        Due.is("light by no length", 0, x.edge(0, false, 1161));
        Due.is("the fourth is seen", 0, x.edge(0, true, 1240));
        Belts.clear(x, 40);
        Due.row("off, though by no fault", new int[] {1, 2, 3}, x::listed);

        JamRules left = Belts.belt(1000);
        left.item(50, 0);
        Belts.plantedUpTo(left, 39, 0);
        left.edge(0, true, 1000);
        left.edge(0, false, 1050);
        Due.is("stop", 40, left.plant(STOP, 1050));
        Belts.clear(left, 40);
        Due.row("it has left", new int[] {}, left::listed);
    }

    private static void beyondFortyInTheMidstOfAnEdge() {
        Due.about("the 40th and the 41st of one edge");
        JamRules x = Belts.belt(1000, 2000);
        Belts.items(x, 2, 50, 0);
        Belts.plantedUpTo(x, 39, 0);
        x.rule(STRANGER, 1, true);
        Due.is("the first of it", 40, x.edge(0, true, 1500));
        Due.is("a lost one", LOST, Belts.kind(x, 40));
        Due.is("no 41st", UNKNOWN, x.cause(41));
        Due.is("the stranger's rule was not asked", true, x.goesOn());
        Due.row("both were there", new int[] {1, 2}, i -> x.doubt(40, i));
        Belts.clear(x, 40);
        Due.row("both are off", new int[] {1, 2}, x::listed);
        JamRules stops = Belts.belt(1000, 2000);
        Belts.items(stops, 2, 50, 0);
        Belts.plantedUpTo(stops, 39, 0);
        stops.rule(LOST, 1, false);
        Due.is("the first of it", 40, stops.edge(0, true, 1500));
        Due.is("stops", false, stops.goesOn());
        Due.is("STATE comes before 0", STATE, stops.plant(1, 1500));
    }

    private static void doubtAtSensorZero() {
        Due.about("for sensor 0, whose head has come to place 0");
        JamRules x = Belts.belt(1000);
        Belts.items(x, 3, 50, 100);
        int[][] rows = {{99, 0}, {100, 1}, {179, 1}, {180, 2}, {259, 2}};
        for (int f = 1; f <= rows.length; f++) {
            int fault = f;
            Due.is("stranger", f, x.edge(0, true, rows[f - 1][0]));
            int[] want = rows[f - 1][1] == 0 ? new int[] {} : rows[f - 1][1] == 1 ? new int[] {1} : new int[] {1, 2};
            Due.row("at " + rows[f - 1][0], want, i -> x.doubt(fault, i));
            x.edge(0, false, rows[f - 1][0]);
        }
    }

    private static void doubtAtALaterSensor() {
        Due.about("which the sensor before has seen");
        JamRules x = Belts.belt(1000, 1500, 2000);
        Belts.items(x, 3, 50, 0);
        Due.is("sensor 1, none seen by 0", 1, x.edge(1, true, 990));
        Due.row("nobody", new int[] {}, i -> x.doubt(1, i));
        x.edge(1, false, 990);
        x.edge(0, true, 1000);
        Due.is("sensor 1, one seen by 0", 2, x.edge(1, true, 1000));
        Due.row("0 is dark by it", new int[] {1}, i -> x.doubt(2, i));
        x.edge(1, false, 1000);
        x.edge(0, false, 1050);
        x.edge(0, true, 1080);
        x.edge(0, false, 1130);
        Due.is("sensor 1", 3, x.edge(1, true, 1130));
        Due.row("two", new int[] {1, 2}, i -> x.doubt(3, i));
        x.edge(1, false, 1130);
        Due.is("sensor 2, none seen by 1", 4, x.edge(2, true, 1130));
        Due.row("nobody", new int[] {}, i -> x.doubt(4, i));
    }

    private static void doubtOfWhatIsDarkBy() {
        Due.about("or this one, and with which this one has not done");
        JamRules x = Belts.belt(1000, 1500);
        x.item(50, 0);
        x.item(50, 400);
        Due.is("seen by 1, not by 0", 0, x.edge(1, true, 1500));
        Due.is("short at 1", 1, x.edge(1, false, 1510));
        Due.row("it is dark by it", new int[] {1}, i -> x.doubt(1, i));
        JamRules done = Belts.belt(1000, 1500, 3000);
        done.item(50, 0);
        done.edge(0, true, 1000);
        done.edge(0, false, 1050);
        done.edge(1, true, 1500);
        done.edge(1, false, 1550);
        Due.is("sensor 0 has done", 1, done.edge(0, true, 1600));
        Due.row("nobody", new int[] {}, i -> done.doubt(1, i));
        Due.is("sensor 1 has done", 2, done.edge(1, true, 1600));
        Due.row("nobody", new int[] {}, i -> done.doubt(2, i));
        Due.is("sensor 2 has not", 3, done.edge(2, true, 1600));
        Due.row("one", new int[] {1}, i -> done.doubt(3, i));
    }

    private static void doubtBeforeWhatIsOff() {
        Due.about("each before what is off by the fault");
        JamRules lost = Belts.belt(1000);
        lost.item(50, 0);
        lost.edge(0, true, 1016);
        Due.row("the lost one is in its own doubt", new int[] {1}, i -> lost.doubt(1, i));
        Due.row("not in the stranger's", new int[] {}, i -> lost.doubt(2, i));
        JamRules two = Belts.belt(1000);
        Belts.items(two, 2, 50, 0);
        two.edge(0, true, 1000);
        Due.is("double", 1, two.edge(0, false, 1080));
        Due.row("both", new int[] {1, 2}, i -> two.doubt(1, i));
    }

    // ---- THE RULE, THE BELT STANDS, THE RANK, ITS CAUSE ----

    private static void rulesAtFirst() {
        Due.about("at first those of 5 and 6 do");
        for (int kind = 1; kind <= 6; kind++) {
            JamRules x = new JamRules();
            x.plant(kind, 0);
            Due.is("kind " + kind + " goes on", kind < 5, x.goesOn());
            Due.is("rule of " + kind, kind < 5 ? 0 : 1, new JamRules().rule(kind, 0, false));
        }
    }

    private static void ruleThatThrows() {
        Due.about("a rule that throws stops the belt, whatever it says");
        for (int does = 0; does <= 1; does++) {
            for (int kind = 1; kind <= 6; kind++) {
                JamRules x = new JamRules();
                x.rule(kind, does, true);
                x.plant(kind, 0);
                Due.is("stands", false, x.goesOn());
                Due.is("rank", 9, x.alarm(0, 1));
                Belts.clear(x, 1);
                x.plant(kind, 0);
                Due.is("one then that stops", false, x.goesOn());
                Due.is("and throws no more", true, x.alarm(0, 1) != 9);
                Due.is("it says so", 1, x.rule(kind, 0, false));
            }
        }
        JamRules taken = new JamRules();
        taken.rule(1, 0, true);
        Due.is("a throw that is taken back", 0, taken.rule(1, 0, false));
        taken.plant(1, 0);
        Due.is("runs", true, taken.goesOn());
        JamRules other = new JamRules();
        other.rule(2, 0, true);
        other.plant(1, 0);
        Due.is("another kind's", true, other.goesOn());
        JamRules again = new JamRules();
        again.rule(1, 0, true);
        again.plant(1, 0);
        Belts.clear(again, 1);
        again.rule(1, 0, true);
        again.plant(1, 0);
        Due.is("set anew, it throws anew", 9, again.alarm(0, 1));
    }

    private static void standsWithSix() {
        Due.about("more than 5 are not cleared");
        JamRules x = Belts.belt(1000);
        for (int f = 1; f <= 6; f++) {
            Due.is("runs before " + f, true, x.goesOn());
            Due.is("stranger", f, x.edge(0, true, f));
            if (f < 6) {
                x.edge(0, false, f);
            }
        }
        Due.is("stands with 6", false, x.goesOn());
        Due.is("the sixth edge was done", 6, x.count(0));
        x.step(1, 1);
        Due.is("runs with 5", true, x.goesOn());
        Due.is("and the sensor is dark yet", STATE, x.edge(0, true, 6));
        JamRules more = Belts.belt(1000);
        for (int f = 1; f <= 5; f++) {
            more.plant(SHORT, 0);
        }
        Belts.items(more, 3, 50, 0);
        more.edge(0, true, 5000);
        Due.is("9 are not", true, more.alarm(8, 0) > 0 && more.alarm(9, 0) < 0);
        for (int f = 1; f <= 3; f++) {
            Belts.clear(more, f);
            Due.is("more than 5 are not", false, more.goesOn());
        }
        Belts.clear(more, 4);
        Due.is("5 are not", true, more.goesOn());
    }

    private static void ranks() {
        Due.about("the rank");
        int[] ranks = {2, 4, 3, 1, 6, 7};
        for (int kind = 1; kind <= 6; kind++) {
            JamRules x = new JamRules();
            x.plant(kind, 0);
            Due.is("of " + kind, ranks[kind - 1], x.alarm(0, 1));
            JamRules thrown = new JamRules();
            thrown.rule(kind, 0, true);
            thrown.plant(kind, 0);
            Due.is("of " + kind + ", its rule threw", 9, thrown.alarm(0, 1));
        }
        JamRules same = new JamRules();
        same.plant(1, 3);
        same.plant(2, 4);
        same.plant(1, 5);
        same.plant(2, 6);
        Due.row("by rank, then by number", new int[] {2, 4, 1, 3}, i -> same.alarm(i, 0));
    }

    private static void causePlanted() {
        Due.about("90 and the kind, if it was planted (not STOP)");
        for (int kind = 1; kind <= 6; kind++) {
            JamRules x = new JamRules();
            x.plant(kind, 0);
            Due.is("kind " + kind, kind == 6 ? 60 : 90 + kind, x.cause(1));
            Belts.clear(x, 1);
            x.rule(kind, 0, true);
            x.plant(kind, 1);
            Due.is("kind " + kind + ", its rule threw", kind == 6 ? 62 : 90 + kind, x.cause(2));
        }
    }

    private static void causeTenThousandBefore() {
        Due.about("came 10,000 before at most");
        for (int gap = 9999; gap <= 10001; gap++) {
            JamRules x = Belts.belt(1000);
            x.edge(0, true, 0);
            x.edge(0, false, 0);
            x.edge(0, true, gap);
            Due.is(gap + " before", gap <= 10000 ? 11 : 10, x.cause(2));
            Due.is("the first", 10, x.cause(1));
        }
        JamRules same = Belts.belt(1000);
        same.edge(0, true, 5);
        same.edge(0, false, 5);
        same.edge(0, true, 5);
        Due.is("at the same time", 11, same.cause(2));
        Due.is("the later one is not before", 10, same.cause(1));
        JamRules cleared = Belts.belt(1000);
        cleared.edge(0, true, 5);
        cleared.edge(0, false, 5);
        cleared.step(1, 1);
        cleared.edge(0, true, 10005);
        Due.is("a cleared one counts", 11, cleared.cause(2));
        JamRules end = Belts.belt(1000);
        end.edge(0, true, LATEST - 10000);
        end.edge(0, false, LATEST - 10000);
        end.edge(0, true, LATEST);
        Due.is("at the end of time", 11, end.cause(2));
    }

    private static void causeAtTheSameSensor() {
        Due.about("another fault at its sensor, none that was planted");
        JamRules x = Belts.belt(1000, 2000);
        x.edge(0, true, 5);
        x.edge(1, true, 6);
        Due.is("the other sensor's does not count", 10, x.cause(2));
        x.edge(1, false, 6);
        x.plant(1, 7);
        x.plant(SHORT, 7);
        Due.is("planted ones have no sensor", 91, x.cause(3));
        Due.is("planted ones have no sensor", 94, x.cause(4));
        JamRules y = Belts.belt(1000);
        y.plant(1, 0);
        y.edge(0, true, 0);
        Due.is("planted ones do not count", 10, y.cause(2));
        JamRules stop = Belts.belt(1000);
        stop.rule(STOP, 0, false);
        stop.plant(STOP, 0);
        stop.edge(0, true, 0);
        Due.is("a stop is at no sensor", 10, stop.cause(2));
        JamRules kinds = Belts.belt(1000);
        kinds.item(100, 0);
        kinds.edge(0, true, 900);
        kinds.edge(0, false, 901);
        kinds.edge(0, true, 1000);
        kinds.edge(0, false, 1010);
        Due.is("another kind counts", 41, kinds.cause(2));
    }

    private static void causeOfStops() {
        Due.about("of STOP: another STOP");
        for (int gap = 9999; gap <= 10001; gap++) {
            JamRules x = new JamRules();
            x.rule(STOP, 0, false);
            x.plant(STOP, 3);
            x.plant(STOP, 3 + gap);
            Due.is(gap + " before", gap <= 10000 ? 61 : 60, x.cause(2));
            Due.is("the first", 60, x.cause(1));
        }
        JamRules other = Belts.belt(1000);
        other.edge(0, true, 0);
        other.plant(1, 0);
        other.plant(STOP, 0);
        Due.is("other kinds do not count", 60, other.cause(3));
    }

    private static void causeThatThrew() {
        Due.about("and 2, if its rule threw, or else 1");
        JamRules x = Belts.belt(1000);
        x.edge(0, true, 0);
        x.edge(0, false, 0);
        x.rule(1, 0, true);
        x.edge(0, true, 1);
        Due.is("2 comes before 1", 12, x.cause(2));
        Belts.clear(x, 1);
        Belts.clear(x, 2);
        x.edge(0, true, 2);
        Due.is("the next is 1", 11, x.cause(3));
    }

    // ---- STEPS ----

    private static void stepsInOrder() {
        Due.about("steps to clear a fault, in this order");
        for (int kind = 1; kind <= 6; kind++) {
            JamRules x = new JamRules();
            x.plant(kind, 0);
            for (int due : Belts.steps(kind)) {
                for (int step = 1; step <= 5; step++) {
                    if (step != due) {
                        Due.is("kind " + kind + ", not " + step, 0, x.step(1, step));
                    }
                }
                Due.is("kind " + kind + " is not cleared", kind, Belts.kind(x, 1));
                Due.is("kind " + kind + ", step " + due, 1, x.step(1, due));
            }
            Due.is("kind " + kind + " is cleared", 0, Belts.kind(x, 1));
        }
    }

    private static void clearedInOrder() {
        Due.about("faults are cleared in the order of their numbers");
        JamRules x = new JamRules();
        x.plant(1, 0);
        x.plant(2, 0);
        x.plant(6, 0);
        Due.is("the greatest rank is not the first", STATE, x.step(3, 4));
        Due.is("nor the second", STATE, x.step(2, 1));
        Belts.clear(x, 1);
        Due.is("nor yet the third", STATE, x.step(3, 4));
        Belts.clear(x, 2);
        Belts.clear(x, 3);
        Due.is("all are cleared", true, x.goesOn());
    }

    private static void clearedThatStops() {
        Due.about("with one that stops all items on the belt are off, and all sensors light");
        JamRules x = Belts.belt(1000, 2000);
        x.item(100, 0);
        x.item(100, 200);
        x.item(100, 90000);
        x.edge(0, true, 1000);
        x.edge(1, true, 1000);
        x.plant(STOP, 1001);
        Belts.clear(x, 1);
        Due.row("nobody yet", new int[] {}, x::listed);
        x.step(2, 4);
        Due.row("nor with half of it", new int[] {}, x::listed);
        x.step(2, 5);
        Due.row("all", new int[] {1, 2, 3}, x::listed);
        for (int s = 0; s < 2; s++) {
            Due.is("light", STATE, x.edge(s, false, 1001));
        }
        Due.is("no jam of what was dark", 3, x.edge(0, true, 90000));
        Belts.kinds(x, 3, STRANGER);
    }

    private static void clearedThatDoesNotStop() {
        Due.about("with one that does not stop the belt stays as it is");
        JamRules x = Belts.belt(1000, 2000);
        x.rule(JAM, 0, false);
        x.item(100, 0);
        x.item(100, 800);
        x.edge(0, true, 1000);
        Due.is("a jam, then a stranger", 1, x.edge(1, true, 1601));
        Belts.clear(x, 1);
        Due.row("nobody is off", new int[] {}, x::listed);
        Due.is("0 is dark yet", STATE, x.edge(0, true, 1601));
        Due.is("1 is dark yet", STATE, x.edge(1, true, 1601));
        Due.is("and by the first: a double", 3, x.edge(0, false, 1602));
        Belts.kinds(x, 2, STRANGER, DOUBLE);
    }

    private static void sixUnclearedAreNoStop() {
        Due.about("the sixth that is not cleared is none that stops");
        JamRules x = Belts.belt(1000);
        x.item(100, 0);
        x.edge(0, true, 1000);
        for (int f = 1; f <= 6; f++) {
            x.plant(1, 1000);
        }
        for (int f = 1; f <= 6; f++) {
            Belts.clear(x, f);
        }
        Due.row("nobody is off", new int[] {}, x::listed);
        Due.is("dark yet", STATE, x.edge(0, true, 1000));
        Due.is("by the first", 0, x.edge(0, false, 1100));
    }

    private static void listOrder() {
        Due.about("those in its doubt that are off, in order, then the others that are off by it");
        JamRules x = Belts.belt(1000, 2000);
        Belts.items(x, 3, 50, 0);
        x.item(50, 5000);
        x.edge(0, true, 1000);
        x.edge(0, false, 1050);
        x.rule(STRANGER, 1, false);
        Due.is("stranger at 0", 1, x.edge(0, true, 1060));
        Due.row("doubt", new int[] {2, 3}, i -> x.doubt(1, i));
        Belts.clear(x, 1);
        Due.row("list", new int[] {2, 3, 1, 4}, x::listed);

        JamRules behind = Belts.belt(1000, 2000);
        Belts.items(behind, 2, 50, 0);
        behind.edge(0, true, 1080);
        Belts.clear(behind, 1);
        Due.row("the lost one", new int[] {1}, behind::listed);
        behind.plant(STOP, 1080);
        Belts.clear(behind, 2);
        Due.row("behind the list", new int[] {1, 2}, behind::listed);
    }

    private static void listNoneTwice() {
        Due.about("none twice, none that was fed");
        JamRules x = Belts.belt(1000);
        Belts.items(x, 3, 50, 0);
        Due.is("a stranger that all are in doubt by", 1, x.edge(0, true, 900));
        x.edge(0, false, 900);
        Due.is("another", 2, x.edge(0, true, 901));
        x.edge(0, false, 901);
        Due.is("two are lost", 3, x.edge(0, true, 1160));
        Belts.kinds(x, 1, STRANGER, STRANGER, LOST, LOST);
        Belts.clear(x, 1);
        Due.row("both", new int[] {1, 2}, x::listed);
        Due.is("fed", 1, x.feed(1));
        Belts.clear(x, 2);
        Due.row("none twice, none that was fed", new int[] {2}, x::listed);
        Belts.clear(x, 3);
        Belts.clear(x, 4);
        Due.row("nor by the lost", new int[] {2}, x::listed);
        x.plant(STOP, 1160);
        Belts.clear(x, 5);
        Due.row("nor by a stop", new int[] {2, 3}, x::listed);
    }

    private static void countsAtStepFive() {
        Due.about("step 5 sets all counts to 0");
        for (int kind = JAM; kind <= STOP; kind++) {
            for (int does = 0; does <= 1; does++) {
                JamRules x = Belts.belt(1000, 2000);
                x.rule(kind, does, false);
                x.edge(0, true, 0);
                x.edge(0, false, 0);
                x.edge(1, true, 0);
                Belts.clear(x, 1);
                Belts.clear(x, 2);
                x.plant(kind, 1);
                for (int step : Belts.steps(kind)) {
                    Due.is("before step " + step, 1, x.count(0));
                    if (step != 5) {
                        Due.is("5 is not the next", 0, x.step(3, 5));
                    }
                    Due.is("nothing is done", 1, x.count(1));
                    x.step(3, step);
                }
                Due.is("sensor 0", 0, x.count(0));
                Due.is("sensor 1", 0, x.count(1));
                Due.is("counted anew", 4, x.edge(0, true, 2));
                Due.is("counted anew", 1, x.count(0));
            }
        }
    }
}

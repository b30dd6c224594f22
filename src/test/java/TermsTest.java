/** What the document says under "Terms", run by run. */
public final class TermsTest {
    private static final int STATE = Belts.STATE;
    private static final int STRANGER = Belts.STRANGER, LOST = Belts.LOST, DOUBLE = Belts.DOUBLE;
    private static final int SHORT = Belts.SHORT, JAM = Belts.JAM;

    public static void main(String[] args) {
        seenWithinFifteen();
        lostOneByOne();
        lostThenStranger();
        strangersLeaveNoLength();
        longerOrShorter();
        doubleTakesTheNext();
        lengthOfOneThatIsOff();
        behindTheLastSensor();
        doubleAtTheLastSensor();
        jamAfterItsTime();
        jamThatStopsLeavesTheRest();
        jamThatDoesNotStop();
        jamAsTheSixth();
        jamOnceWhileDark();
        jamsOfAllSensors();
        lostThatStops();
        ruleThatThrowsOnce();
        beyondFortyFaults();
        doubtAtLaterSensors();
        clearingWithoutStop();
        clearingWithStop();
        listHasDoubtFirst();
        listHasNoneTwice();
        lostOutOfDoubt();
        offByAnotherFault();
        doubleOfOneThatHasLeft();
        itemsAheadOfTheBelt();
        Due.end();
    }

    private static void seenWithinFifteen() {
        Due.about("seen within 15");
        long[] at = {985, 1000, 1015};
        for (long t : at) {
            JamRules x = Belts.belt(1000);
            x.item(100, 0);
            Due.is("at " + t, 0, x.edge(0, true, t));
            Due.is("its length is known", 0, x.edge(0, false, t + 100));
        }
        JamRules early = Belts.belt(1000);
        early.item(100, 0);
        Due.is("16 early", 1, early.edge(0, true, 984));
        Belts.kinds(early, 1, STRANGER);
        early.edge(0, false, 985);
        Due.is("it comes yet", 0, early.edge(0, true, 990));
        JamRules late = Belts.belt(1000);
        late.item(100, 0);
        Due.is("16 late", 1, late.edge(0, true, 1016));
        Belts.kinds(late, 1, LOST, STRANGER);
    }

    private static void lostOneByOne() {
        Due.about("lost one by one");
        JamRules x = Belts.belt(1000);
        x.item(100, 0);
        x.item(100, 200);
        x.item(100, 400);
        x.item(100, 600);
        Due.is("the third comes", 1, x.edge(0, true, 1400));
        Belts.kinds(x, 1, LOST, LOST);
        Due.row("the first", new int[] {1, 2, 3, 4}, i -> x.doubt(1, i));
        Due.row("the second", new int[] {2, 3, 4}, i -> x.doubt(2, i));
        Due.is("no fault before", 20, x.cause(1));
        Due.is("one before", 21, x.cause(2));
        Due.is("one edge", 1, x.count(0));
        Due.is("the third is as long as it is", 0, x.edge(0, false, 1500));
    }

    private static void lostThenStranger() {
        Due.about("lost, then a stranger");
        JamRules x = Belts.belt(1000);
        x.item(100, 0);
        x.item(100, 500);
        Due.is("between both", 1, x.edge(0, true, 1200));
        Belts.kinds(x, 1, LOST, STRANGER);
        Due.row("of the stranger", new int[] {2}, i -> x.doubt(2, i));
        Due.is("same time, same sensor", 11, x.cause(2));
        Due.is("the later one does not count", 20, x.cause(1));
    }

    private static void strangersLeaveNoLength() {
        Due.about("a stranger has no length");
        JamRules x = Belts.belt(1000);
        x.edge(0, true, 100);
        Due.is("very short", 0, x.edge(0, false, 100));
        x.edge(0, true, 200);
        Due.is("rather long", 0, x.edge(0, false, 700));
    }

    private static void longerOrShorter() {
        Due.about("longer or shorter");
        int[][] rows = {{84, SHORT}, {85, 0}, {100, 0}, {115, 0}, {116, DOUBLE}};
        for (int[] row : rows) {
            JamRules x = Belts.belt(1000, 2000);
            x.item(100, 0);
            x.edge(0, true, 1005);
            Due.is("dark for " + row[0], row[1] == 0 ? 0 : 1, x.edge(0, false, 1005 + row[0]));
            Due.is("its kind", row[1], Belts.kind(x, 1));
            Due.is("off, or to be lost at sensor 1", row[1] == DOUBLE ? STRANGER : LOST, nextKind(x));
            if (row[1] != 0) {
                Due.row("doubt", new int[] {1}, i -> x.doubt(1, i));
            }
        }
    }

    private static int nextKind(JamRules x) {
        return Belts.kind(x, x.edge(1, true, 3000));
    }

    private static void doubleTakesTheNext() {
        Due.about("a double takes the next");
        for (long late = 15; late <= 16; late++) {
            JamRules x = Belts.belt(1000, 2000);
            x.item(100, 0);
            x.item(50, 300);
            x.edge(0, true, 1000);
            Due.is("light", 1, x.edge(0, false, 1300 - late));
            Due.row("doubt", new int[] {1, 2}, i -> x.doubt(1, i));
            Belts.clear(x, 1);
            Due.row("list", late == 15 ? new int[] {1, 2} : new int[] {1}, x::listed);
            Due.is("the next", late == 15 ? 2 : 0, x.edge(0, true, 1300));
        }
        JamRules two = Belts.belt(1000);
        two.rule(3, 1, false);
        two.item(100, 0);
        two.item(50, 130);
        two.item(50, 210);
        two.edge(0, true, 1000);
        two.edge(0, false, 1400);
        Due.is("stops", false, two.goesOn());
        two.rule(3, 0, false);
        Belts.clear(two, 1);
        Due.row("all three come off", new int[] {1, 2, 3}, two::listed);
        JamRules one = Belts.belt(1000);
        one.item(100, 0);
        one.item(50, 130);
        one.item(50, 210);
        one.edge(0, true, 1000);
        one.edge(0, false, 1400);
        Belts.clear(one, 1);
        Due.row("the least one alone", new int[] {1, 2}, one::listed);
    }

    private static void lengthOfOneThatIsOff() {
        Due.about("an item that is off by now");
        JamRules x = Belts.belt(1000, 1100);
        x.item(500, 0);
        x.edge(0, true, 1000);
        Due.is("lost at sensor 1", 1, x.edge(1, true, 1116));
        Belts.kinds(x, 1, LOST, STRANGER);
        Due.is("short at sensor 0", 3, x.edge(0, false, 1400));
        Belts.kinds(x, 1, LOST, STRANGER, SHORT);
        Due.row("it is in no doubt", new int[] {}, i -> x.doubt(3, i));

        JamRules jam = Belts.belt(1000, 1100);
        jam.item(500, 0);
        jam.edge(0, true, 1000);
        jam.edge(1, true, 1116);
        jam.edge(1, false, 1200);
        Due.is("its length counts", 3, jam.edge(1, true, 2000));
        Belts.kinds(jam, 1, LOST, STRANGER, STRANGER);
        Due.is("its jam is told", 4, jam.edge(1, false, 2001));
        Belts.kinds(jam, 1, LOST, STRANGER, STRANGER, JAM);
        Due.is("at sensor 0", 0, jam.alarm(0, 3));
    }

    private static void behindTheLastSensor() {
        Due.about("behind the last sensor");
        JamRules x = Belts.belt(1000, 2000);
        x.item(100, 0);
        x.item(100, 200);
        x.item(100, 400);
        x.edge(0, true, 1000);
        x.edge(0, false, 1100);
        x.edge(0, true, 1200);
        x.edge(0, false, 1300);
        x.edge(0, true, 1400);
        x.edge(0, false, 1500);
        x.edge(1, true, 2000);
        x.edge(1, false, 2100);
        x.edge(1, true, 2200);
        Due.is("short there", 1, x.edge(1, false, 2250));
        Due.row("doubt", new int[] {2, 3}, i -> x.doubt(1, i));
        x.plant(6, 2300);
        Belts.clear(x, 1);
        Due.row("short ones are not off", new int[] {}, x::listed);
        Belts.clear(x, 2);
        Due.row("two have left", new int[] {3}, x::listed);
    }

    private static void doubleAtTheLastSensor() {
        Due.about("a double at the last sensor");
        JamRules x = Belts.belt(1000);
        x.item(100, 0);
        x.edge(0, true, 1000);
        Due.is("double", 1, x.edge(0, false, 1200));
        Belts.clear(x, 1);
        Due.row("off, not left", new int[] {1}, x::listed);
    }

    private static void jamAfterItsTime() {
        Due.about("a jam after its time");
        JamRules x = Belts.belt(1000, 5000);
        x.item(100, 0);
        x.item(100, 200);
        x.edge(0, true, 1000);
        Due.is("500 and its length", 1, x.edge(1, true, 1600));
        Belts.kinds(x, 1, STRANGER);
        Due.is("one more", 2, x.edge(1, false, 1601));
        Belts.kinds(x, 1, STRANGER, JAM);
        Due.row("doubt", new int[] {1, 2}, i -> x.doubt(2, i));
        Due.is("its sensor", 0, x.alarm(0, 3));

        JamRules second = Belts.belt(1000, 5000);
        second.item(100, 0);
        second.item(100, 200);
        second.item(100, 400);
        second.edge(0, true, 1000);
        second.edge(0, false, 1100);
        second.edge(0, true, 1200);
        Due.is("the second", 1, second.edge(0, false, 1801));
        Due.row("with the first it has done", new int[] {2, 3}, i -> second.doubt(1, i));

        JamRules stranger = Belts.belt(1000, 5000);
        stranger.edge(0, true, 100);
        Due.is("500", 2, stranger.edge(1, true, 600));
        Belts.kinds(stranger, 1, STRANGER, STRANGER);
        Due.is("501", 3, stranger.edge(1, false, 601));
        Belts.kinds(stranger, 1, STRANGER, STRANGER, JAM);
    }

    private static void jamThatStopsLeavesTheRest() {
        Due.about("a jam that stops");
        JamRules x = Belts.belt(1000, 5000);
        x.item(100, 0);
        x.item(100, 200);
        x.edge(0, true, 1000);
        Due.is("jam at 0", 1, x.edge(1, true, 2000));
        Belts.kinds(x, 1, JAM);
        Due.is("it stands", false, x.goesOn());
        Due.is("no edge at 1", 0, x.count(1));
        Due.is("the clock goes on", JamRules.OUTSIDE, x.plant(1, 1999));
        Belts.clear(x, 1);
        Due.row("all off", new int[] {1, 2}, x::listed);
        Due.is("1 is light", STATE, x.edge(1, false, 2001));
        Due.is("0 is light, too", STATE, x.edge(0, false, 2001));
    }

    private static void jamThatDoesNotStop() {
        Due.about("a jam that does not stop");
        JamRules x = Belts.belt(1000, 5000);
        x.rule(5, 0, false);
        x.item(100, 0);
        x.edge(0, true, 1000);
        Due.is("jam, then double", 1, x.edge(0, false, 1700));
        Belts.kinds(x, 1, JAM, DOUBLE);
        Due.is("one before", 31, x.cause(2));
        Due.is("it is light", STATE, x.edge(0, false, 1701));
        Belts.clear(x, 1);
        Due.row("off by the double", new int[] {1}, x::listed);
    }

    private static void jamAsTheSixth() {
        Due.about("a jam that is the sixth");
        JamRules x = Belts.belt(1000);
        x.rule(5, 0, false);
        x.edge(0, true, 0);
        for (int f = 2; f <= 5; f++) {
            x.plant(4, 10);
        }
        Due.is("jam", 6, x.edge(0, false, 501));
        Due.is("it stands", false, x.goesOn());
        Due.is("step", 1, x.step(1, 1));
        Due.is("the sensor is dark yet", STATE, x.edge(0, true, 501));
        Due.is("the jam is not told again", 0, x.edge(0, false, 501));
    }

    private static void jamOnceWhileDark() {
        Due.about("once while it is dark");
        JamRules x = Belts.belt(1000, 2000);
        x.rule(5, 0, false);
        x.edge(0, true, 0);
        Due.is("jam", 2, x.edge(1, true, 501));
        Belts.kinds(x, 1, STRANGER, JAM, STRANGER);
        Due.is("not again", 0, x.edge(1, false, 502));
        x.edge(0, false, 503);
        Belts.clear(x, 1);
        Belts.clear(x, 2);
        Belts.clear(x, 3);
        Due.is("dark anew", 4, x.edge(0, true, 600));
        Due.is("not yet", 5, x.edge(1, true, 1100));
        Due.is("told anew", 6, x.edge(1, false, 1101));
        Belts.kinds(x, 4, STRANGER, STRANGER, JAM);
        Due.is("its cause", 51, x.cause(6));
    }

    private static void jamsOfAllSensors() {
        Due.about("all sensors tell");
        JamRules x = Belts.belt(1000, 2000, 3000);
        x.edge(2, true, 10);
        x.edge(0, true, 20);
        Due.is("both", 3, x.edge(1, true, 800));
        Belts.kinds(x, 1, STRANGER, STRANGER, JAM, JAM);
        Due.is("in order", 0, x.alarm(0, 3));
        Due.is("in order", 2, x.alarm(1, 3));
        Due.is("nothing else", 0, x.count(1));
    }

    private static void lostThatStops() {
        Due.about("a lost one that stops");
        JamRules x = Belts.belt(1000);
        x.rule(2, 1, false);
        x.item(100, 0);
        x.item(100, 200);
        x.item(100, 400);
        Due.is("two lost, one seen", 1, x.edge(0, true, 1400));
        Belts.kinds(x, 1, LOST, LOST);
        Due.is("it stands", false, x.goesOn());
        Due.is("the edge is counted", 1, x.count(0));
        Belts.clear(x, 1);
        Due.is("it stands by the other", false, x.goesOn());
        Belts.clear(x, 2);
        Due.is("it runs", true, x.goesOn());
        Due.is("light", STATE, x.edge(0, false, 1400));
    }

    private static void ruleThatThrowsOnce() {
        Due.about("a rule that throws");
        JamRules x = Belts.belt(1000);
        x.rule(2, 0, true);
        x.item(100, 0);
        x.item(100, 200);
        x.item(100, 400);
        x.edge(0, true, 1400);
        Due.is("it threw for the first", 22, x.cause(1));
        Due.is("not for the second", 21, x.cause(2));
        Due.is("rank", 9, x.alarm(0, 1));
        Due.is("rank", 4, x.alarm(1, 1));
        Belts.clear(x, 1);
        Due.is("the second stops, too", false, x.goesOn());
        Due.is("the rule", 1, x.rule(2, 0, false));
    }

    private static void beyondFortyFaults() {
        Due.about("beyond 40");
        JamRules x = Belts.belt(1000, 2000);
        x.item(100, 0);
        x.item(100, 200);
        x.item(100, 400);
        for (int f = 1; f <= 38; f++) {
            x.plant(1, 10);
            x.step(f, 1);
        }
        Due.is("stranger", 39, x.edge(1, true, 600));
        x.step(39, 1);
        Due.is("stranger in doubt of all", 40, x.edge(0, true, 900));
        Due.row("doubt", new int[] {1, 2, 3}, i -> x.doubt(40, i));
        x.rule(2, 1, true);
        x.rule(1, 0, true);
        x.rule(5, 1, true);
        Due.is("a jam is none, light is light", 0, x.edge(0, false, 1101));
        Due.is("lost ones are none", 0, x.edge(0, true, 1400));
        Due.is("the edge is one", 2, x.count(0));
        Due.is("it runs", true, x.goesOn());
        Due.is("no rule was asked", 1, x.rule(2, 0, false));
        Due.is("no rule was asked", 0, x.rule(1, 0, false));
        Due.is("double is none", 0, x.edge(0, false, 1800));
        Due.is("no fault more", JamRules.UNKNOWN, x.cause(41));
        Belts.clear(x, 40);
        Due.row("they are off all the same", new int[] {1, 2, 3}, x::listed);
    }

    private static void doubtAtLaterSensors() {
        Due.about("doubt at later sensors");
        JamRules x = Belts.belt(1000, 1500, 2000);
        for (int i = 0; i < 4; i++) {
            x.item(100, 200L * i);
        }
        for (int i = 0; i < 3; i++) {
            x.edge(0, true, 1000 + 200 * i);
            x.edge(0, false, 1100 + 200 * i);
        }
        x.edge(1, true, 1500);
        Due.is("stranger at 2", 1, x.edge(2, true, 1510));
        Due.row("what 1 has seen", new int[] {1}, i -> x.doubt(1, i));
        Due.is("short at 1", 2, x.edge(1, false, 1520));
        Due.row("dark by it, and what 0 has seen", new int[] {1, 2, 3}, i -> x.doubt(2, i));
        Due.is("stranger at 1", 3, x.edge(1, true, 1530));
        Due.row("with the first it has done", new int[] {2, 3}, i -> x.doubt(3, i));
        Due.is("lost at 0", 4, x.edge(0, true, 1700));
        Belts.kinds(x, 1, STRANGER, SHORT, STRANGER, LOST, STRANGER);
        Due.row("0 has seen the others", new int[] {4}, i -> x.doubt(4, i));
        Due.row("it is off", new int[] {}, i -> x.doubt(5, i));

        JamRules head = Belts.belt(1000);
        head.item(100, 300);
        head.edge(0, true, 299);
        Due.row("its head has not come", new int[] {}, i -> head.doubt(1, i));
        head.edge(0, false, 299);
        head.edge(0, true, 300);
        Due.row("its head has come", new int[] {1}, i -> head.doubt(2, i));
    }

    private static void clearingWithoutStop() {
        Due.about("clearing without a stop");
        JamRules x = Belts.belt(1000);
        x.item(100, 0);
        x.item(100, 200);
        x.item(100, 400);
        x.edge(0, true, 900);
        x.edge(0, false, 950);
        Due.row("doubt", new int[] {1, 2, 3}, i -> x.doubt(1, i));
        Due.is("the first is lost", 2, x.edge(0, true, 1200));
        Belts.clear(x, 1);
        Due.row("off by the other fault", new int[] {1}, x::listed);
        Due.is("the sensor is dark", STATE, x.edge(0, true, 1200));
        Due.is("the second passes", 0, x.edge(0, false, 1300));
        Due.is("the third is on the belt", 0, x.edge(0, true, 1400));
        Belts.clear(x, 2);
        Due.row("none twice", new int[] {1}, x::listed);
    }

    private static void clearingWithStop() {
        Due.about("clearing with a stop");
        JamRules x = Belts.belt(1000, 1500);
        x.item(100, 0);
        x.item(100, 200);
        x.item(100, 400);
        x.item(100, 2000);
        x.rule(1, 1, false);
        x.edge(0, true, 1000);
        x.edge(0, false, 1100);
        x.edge(0, true, 1200);
        x.edge(0, false, 1300);
        x.edge(1, true, 1500);
        x.edge(1, false, 1600);
        Due.is("stranger at 1 ", 1, x.edge(1, true, 1601));
        Due.row("doubt", new int[] {2}, i -> x.doubt(1, i));
        Due.is("counts", 2, x.count(1));
        Belts.clear(x, 1);
        Due.row("doubt, then the others", new int[] {2, 3, 4}, x::listed);
        Due.is("sensors are light", STATE, x.edge(1, false, 1700));
        Due.is("counts stay", 2, x.count(1));
        Due.is("nobody is lost", 2, x.edge(0, true, 3000));
        Belts.kinds(x, 2, STRANGER);
    }

    private static void listHasDoubtFirst() {
        Due.about("those in doubt come first");
        JamRules x = Belts.belt(1000, 1500);
        x.rule(1, 1, false);
        x.item(100, 0);
        x.item(100, 200);
        x.item(100, 2000);
        x.edge(0, true, 1000);
        x.edge(0, false, 1100);
        Due.is("stranger", 1, x.edge(0, true, 1120));
        Due.row("doubt", new int[] {2}, i -> x.doubt(1, i));
        Belts.clear(x, 1);
        Due.row("then the others", new int[] {2, 1, 3}, x::listed);
    }

    private static void listHasNoneTwice() {
        Due.about("none twice, none that was fed");
        JamRules x = Belts.belt(1000);
        x.rule(2, 1, false);
        x.item(100, 0);
        x.item(100, 200);
        x.item(100, 400);
        x.edge(0, true, 1400);
        Belts.kinds(x, 1, LOST, LOST);
        Belts.clear(x, 1);
        Due.row("all", new int[] {1, 2, 3}, x::listed);
        Due.is("feed", 1, x.feed(2));
        Belts.clear(x, 2);
        Due.row("the fed one does not come back", new int[] {1, 3}, x::listed);
        Due.is("fed", 0, x.feed(2));
    }

    private static void lostOutOfDoubt() {
        Due.about("lost, but in no doubt");
        for (int stops = 0; stops <= 1; stops++) {
            JamRules x = Belts.belt(1000, 1500);
            x.rule(2, stops, false);
            x.item(100, 0);
            x.item(100, 200);
            x.item(100, 900);
            x.edge(0, true, 1200);
            Belts.kinds(x, 1, LOST);
            Belts.clear(x, 1);
            if (stops == 0) {
                Due.row("0 lost the first", new int[] {1}, x::listed);
                x.edge(0, false, 1300);
                Due.is("1 loses the second, and the third that 0 has not seen", 2, x.edge(1, true, 2600));
                Belts.kinds(x, 2, LOST, LOST, STRANGER);
                Due.row("of the second", new int[] {2}, i -> x.doubt(2, i));
                Due.row("of the third", new int[] {}, i -> x.doubt(3, i));
                Belts.clear(x, 2);
                Belts.clear(x, 3);
                Due.row("the third is on no list", new int[] {1, 2}, x::listed);
            } else {
                Due.row("all", new int[] {1, 2, 3}, x::listed);
            }
        }
        JamRules x = Belts.belt(1000, 1500);
        x.rule(2, 1, false);
        x.item(100, 0);
        x.item(100, 200);
        x.edge(0, true, 1000);
        x.edge(0, false, 1100);
        x.edge(1, true, 1500);
        x.edge(1, false, 1600);
        Due.is("1 loses the second", 1, x.edge(1, true, 1800));
        Belts.kinds(x, 1, LOST, STRANGER);
        Due.row("doubt", new int[] {}, i -> x.doubt(1, i));
        Belts.clear(x, 1);
        Due.row("off by one that stops", new int[] {2}, x::listed);
    }

    private static void offByAnotherFault() {
        Due.about("off by another fault");
        JamRules x = Belts.belt(1000, 1500);
        x.item(100, 0);
        x.item(100, 2000);
        Due.is("1 loses what 0 has not seen", 1, x.edge(1, true, 1516));
        Belts.kinds(x, 1, LOST, STRANGER);
        x.plant(6, 1520);
        Belts.clear(x, 1);
        Belts.clear(x, 2);
        Belts.clear(x, 3);
        Due.row("not off by the stop", new int[] {2}, x::listed);
        Due.is("not on the list", STATE, x.feed(1));
    }

    private static void doubleOfOneThatHasLeft() {
        Due.about("a double of one that has left");
        JamRules x = Belts.belt(1000, 1100);
        x.item(500, 0);
        x.edge(0, true, 1000);
        x.edge(1, true, 1100);
        Due.is("short at 1", 1, x.edge(1, false, 1200));
        Due.is("double at 0", 2, x.edge(0, false, 1516));
        Belts.kinds(x, 1, SHORT, DOUBLE);
        Due.row("it was on the belt", new int[] {1}, i -> x.doubt(1, i));
        Due.row("it had left", new int[] {}, i -> x.doubt(2, i));
        Belts.clear(x, 1);
        Due.row("it is off", new int[] {1}, x::listed);
    }

    private static void itemsAheadOfTheBelt() {
        Due.about("items whose head comes later");
        JamRules x = Belts.belt(1000);
        x.item(100, 5000);
        x.plant(6, 10);
        Belts.clear(x, 1);
        Due.row("off, too", new int[] {1}, x::listed);
        Due.is("the next is behind it yet", JamRules.OUTSIDE, x.item(100, 5129));
        Due.is("the next is behind it yet", 2, x.item(100, 5130));
    }
}

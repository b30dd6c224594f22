import java.util.function.Supplier;
import java.util.function.ToIntFunction;

/**
 * REFUSALS: of several the first one in the document's order, and a call that is refused changes nothing:
 * an object that was asked in vain answers all later calls as one that was not asked.
 */
public final class RefusalsTest {
    private static final int UNKNOWN = Belts.UNKNOWN, OUTSIDE = Belts.OUTSIDE, STATE = Belts.STATE, ROOM = Belts.ROOM;
    private static final long LATEST = Belts.LATEST;
    private static final long[] TIMES = {
        0, 10, 999, 1000, 1099, 1100, 1280, 1299, 1300, 1301, 1500, 1600, 1780, 2000, 2200, 2500, 3000, 5000, 6000, LATEST
    };
    private static final int SEEDS = 4;

    public static void main(String[] args) {
        ofANewObject();
        ofABeltThatRuns();
        ofABeltThatStands();
        ofSixThatAreNotCleared();
        ofOneThatIsFull();
        whatChangesNothingThoughItIsNotRefused();
        Due.end();
    }

    /** The call is refused as due, and an object without that call goes on as this one does. */
    private static void refused(Supplier<JamRules> made, String call, int want, ToIntFunction<JamRules> calling) {
        for (int seed = 0; seed < SEEDS; seed++) {
            JamRules asked = made.get();
            JamRules other = made.get();
            Due.is(call, want, calling.applyAsInt(asked));
            boolean same = Shown.later(asked, TIMES, seed).equals(Shown.later(other, TIMES, seed));
            Due.is(call + " changed nothing", true, same);
        }
    }

    private static void ofANewObject() {
        Due.about("a new object");
        Supplier<JamRules> made = JamRules::new;
        refused(made, "sensor(99)", OUTSIDE, x -> x.sensor(99));
        refused(made, "sensor(100001)", OUTSIDE, x -> x.sensor(100001));
        refused(made, "item without a sensor", STATE, x -> x.item(50, 0));
        refused(made, "OUTSIDE before no sensor: length", OUTSIDE, x -> x.item(49, 0));
        refused(made, "OUTSIDE before no sensor: t", OUTSIDE, x -> x.item(50, -1));
        refused(made, "edge", UNKNOWN, x -> x.edge(0, true, 0));
        refused(made, "UNKNOWN before OUTSIDE: edge", UNKNOWN, x -> x.edge(0, true, -1));
        refused(made, "UNKNOWN before OUTSIDE: edge", UNKNOWN, x -> x.edge(0, false, LATEST + 1));
        refused(made, "doubt", UNKNOWN, x -> x.doubt(1, 0));
        refused(made, "UNKNOWN before -1: doubt", UNKNOWN, x -> x.doubt(1, -1));
        refused(made, "cause", UNKNOWN, x -> x.cause(1));
        refused(made, "step", UNKNOWN, x -> x.step(1, 1));
        refused(made, "UNKNOWN before OUTSIDE: step", UNKNOWN, x -> x.step(1, 6));
        refused(made, "feed", UNKNOWN, x -> x.feed(1));
        refused(made, "rule: kind", OUTSIDE, x -> x.rule(7, 1, true));
        refused(made, "rule: does", OUTSIDE, x -> x.rule(1, 2, true));
        refused(made, "rule: does", OUTSIDE, x -> x.rule(5, -1, false));
        refused(made, "plant: kind", OUTSIDE, x -> x.plant(0, 10));
        refused(made, "plant: t", OUTSIDE, x -> x.plant(1, -1));
        refused(made, "plant: t", OUTSIDE, x -> x.plant(6, LATEST + 1));
        refused(made, "alarm", OUTSIDE, x -> x.alarm(0, 5));
        refused(made, "count", UNKNOWN, x -> x.count(0));
    }

    /** Sensor 0 is dark by item 3, one is lost and on the list, one was fed, and a rule will throw. */
    private static JamRules running() {
        JamRules x = Belts.belt(1000, 2000);
        x.item(50, 0);
        x.item(50, 80);
        x.item(200, 280);
        x.item(50, 1290);
        x.edge(0, true, 1099);
        x.edge(0, false, 1281);
        Belts.clear(x, 1);
        Belts.clear(x, 2);
        Belts.clear(x, 3);
        x.feed(1);
        x.edge(0, true, 1281);
        x.plant(1, 1300);
        x.plant(4, 1300);
        x.rule(1, 0, true);
        return x;
    }

    private static void ofABeltThatRuns() {
        Due.about("a belt that runs");
        JamRules shown = running();
        Due.is("it runs", true, shown.goesOn());
        Due.is("listed", 2, shown.listed(0));
        Due.is("fed", 0, shown.feed(1));
        Due.is("dark", STATE, shown.edge(0, true, 1300));
        Supplier<JamRules> made = RefusalsTest::running;
        refused(made, "sensor with items", STATE, x -> x.sensor(2100));
        refused(made, "OUTSIDE before STATE: sensor", OUTSIDE, x -> x.sensor(2099));
        refused(made, "OUTSIDE before STATE: sensor", OUTSIDE, x -> x.sensor(100001));
        refused(made, "item: length", OUTSIDE, x -> x.item(1001, 5000));
        refused(made, "item: the one before", OUTSIDE, x -> x.item(50, 1369));
        refused(made, "item: the clock", OUTSIDE, x -> x.item(50, 1299));
        refused(made, "item: too late", OUTSIDE, x -> x.item(50, LATEST + 1));
        refused(made, "edge: sensor", UNKNOWN, x -> x.edge(2, true, 2000));
        refused(made, "UNKNOWN before OUTSIDE: edge", UNKNOWN, x -> x.edge(-1, true, 1299));
        refused(made, "edge: the clock", OUTSIDE, x -> x.edge(1, true, 1299));
        refused(made, "edge: too late", OUTSIDE, x -> x.edge(1, true, LATEST + 1));
        refused(made, "edge: dark already", STATE, x -> x.edge(0, true, 1500));
        refused(made, "edge: dark already, a jam is due", STATE, x -> x.edge(0, true, 5000));
        refused(made, "edge: light already", STATE, x -> x.edge(1, false, 1500));
        refused(made, "edge: light already, a jam is due", STATE, x -> x.edge(1, false, 5000));
        refused(made, "OUTSIDE before STATE: edge", OUTSIDE, x -> x.edge(0, true, 1299));
        refused(made, "OUTSIDE before STATE: edge", OUTSIDE, x -> x.edge(1, false, LATEST + 1));
        refused(made, "step: no such fault", UNKNOWN, x -> x.step(7, 1));
        refused(made, "UNKNOWN before OUTSIDE: step", UNKNOWN, x -> x.step(0, 0));
        refused(made, "step: kind", OUTSIDE, x -> x.step(4, 0));
        refused(made, "step: kind", OUTSIDE, x -> x.step(4, 6));
        refused(made, "step: cleared", STATE, x -> x.step(1, 1));
        refused(made, "OUTSIDE before STATE: cleared", OUTSIDE, x -> x.step(1, 6));
        refused(made, "step: one before it is not", STATE, x -> x.step(5, 1));
        refused(made, "OUTSIDE before STATE: one before it is not", OUTSIDE, x -> x.step(5, 0));
        refused(made, "feed: no such item", UNKNOWN, x -> x.feed(5));
        refused(made, "feed: not on the list", STATE, x -> x.feed(3));
        refused(made, "rule: kind", OUTSIDE, x -> x.rule(0, 0, false));
        refused(made, "rule: does", OUTSIDE, x -> x.rule(1, 2, false));
        refused(made, "plant: kind", OUTSIDE, x -> x.plant(7, 1500));
        refused(made, "plant: the clock", OUTSIDE, x -> x.plant(1, 1299));
        refused(made, "plant: too late", OUTSIDE, x -> x.plant(1, LATEST + 1));
        refused(made, "alarm", OUTSIDE, x -> x.alarm(0, -1));
        refused(made, "count", UNKNOWN, x -> x.count(2));
    }

    /** A jam has stopped it, and the first of its steps is done. */
    private static JamRules standing() {
        JamRules x = Belts.belt(1000, 2000);
        x.item(50, 0);
        x.item(50, 600);
        x.edge(0, true, 1000);
        x.edge(1, true, 1300);
        x.edge(1, false, 1600);
        x.step(1, 1);
        x.step(2, 4);
        return x;
    }

    private static void ofABeltThatStands() {
        Due.about("a belt that stands");
        JamRules shown = standing();
        Due.is("it stands", false, shown.goesOn());
        Due.is("by a jam", 5, shown.alarm(0, 2));
        Due.is("its second step", 1, shown.step(2, 3));
        Supplier<JamRules> made = RefusalsTest::standing;
        refused(made, "sensor", STATE, x -> x.sensor(2100));
        refused(made, "item", STATE, x -> x.item(50, 2000));
        refused(made, "OUTSIDE before STATE: length", OUTSIDE, x -> x.item(49, 2000));
        refused(made, "OUTSIDE before STATE: the clock", OUTSIDE, x -> x.item(50, 1599));
        refused(made, "edge", STATE, x -> x.edge(0, false, 2000));
        refused(made, "edge as it is", STATE, x -> x.edge(0, true, 2000));
        refused(made, "UNKNOWN before STATE: edge", UNKNOWN, x -> x.edge(2, true, 2000));
        refused(made, "UNKNOWN before OUTSIDE and STATE: edge", UNKNOWN, x -> x.edge(2, true, 0));
        refused(made, "OUTSIDE before STATE: edge", OUTSIDE, x -> x.edge(0, false, 1599));
        refused(made, "OUTSIDE before STATE: edge", OUTSIDE, x -> x.edge(1, true, LATEST + 1));
        refused(made, "plant", STATE, x -> x.plant(6, 2000));
        refused(made, "OUTSIDE before STATE: kind", OUTSIDE, x -> x.plant(7, 2000));
        refused(made, "OUTSIDE before STATE: t", OUTSIDE, x -> x.plant(6, 1599));
        refused(made, "OUTSIDE before STATE: t", OUTSIDE, x -> x.plant(6, LATEST + 1));
        refused(made, "step: kind", OUTSIDE, x -> x.step(2, 6));
        refused(made, "step: cleared", STATE, x -> x.step(1, 1));
        refused(made, "feed", STATE, x -> x.feed(1));
        refused(made, "rule", OUTSIDE, x -> x.rule(5, 2, false));
    }

    private static JamRules withSix() {
        JamRules x = Belts.belt(1000, 2000);
        x.edge(0, true, 900);
        for (int f = 2; f <= 6; f++) {
            x.plant(f % 2 == 0 ? 2 : 3, 1000);
        }
        return x;
    }

    private static void ofSixThatAreNotCleared() {
        Due.about("six that are not cleared");
        Due.is("it stands", false, withSix().goesOn());
        Supplier<JamRules> made = RefusalsTest::withSix;
        refused(made, "item", STATE, x -> x.item(50, 1000));
        refused(made, "edge", STATE, x -> x.edge(0, false, 1000));
        refused(made, "edge that would tell a jam", STATE, x -> x.edge(1, true, 2000));
        refused(made, "plant", STATE, x -> x.plant(1, 2000));
        refused(made, "step of the sixth", STATE, x -> x.step(6, 1));
        refused(made, "sensor", OUTSIDE, x -> x.sensor(2099));
        Due.is("no items, so a sensor may come", 2, withSix().sensor(2100));
    }

    /** 8 sensors, 60 items, 40 faults; the last of them is left to clear. */
    private static JamRules full() {
        JamRules x = Belts.belt(1000, 1100, 1200, 1300, 1400, 1500, 1600, 1700);
        Belts.items(x, 60, 50, 0);
        Belts.plantedUpTo(x, 39, 10);
        x.plant(6, 10);
        return x;
    }

    private static JamRules fullAndRunning() {
        JamRules x = full();
        Belts.clear(x, 40);
        x.rule(1, 0, true);
        x.feed(60);
        return x;
    }

    private static void ofOneThatIsFull() {
        Due.about("as many as there may be");
        Supplier<JamRules> eight = () -> Belts.belt(1000, 1100, 1200, 1300, 1400, 1500, 1600, 1700);
        refused(eight, "sensor", ROOM, x -> x.sensor(1800));
        refused(eight, "OUTSIDE before ROOM: sensor", OUTSIDE, x -> x.sensor(1799));
        refused(eight, "OUTSIDE before ROOM: sensor", OUTSIDE, x -> x.sensor(100001));
        refused(RefusalsTest::full, "STATE before ROOM: sensor", STATE, x -> x.sensor(1800));
        refused(RefusalsTest::full, "OUTSIDE before STATE and ROOM: sensor", OUTSIDE, x -> x.sensor(1799));
        refused(RefusalsTest::full, "STATE before ROOM: item", STATE, x -> x.item(50, 5000));
        refused(RefusalsTest::full, "OUTSIDE before STATE and ROOM: item", OUTSIDE, x -> x.item(50, 4799));
        refused(RefusalsTest::full, "STATE, though there were 40", STATE, x -> x.plant(1, 10));
        refused(RefusalsTest::full, "OUTSIDE, though there were 40", OUTSIDE, x -> x.plant(1, 9));
        refused(RefusalsTest::full, "step of 41", UNKNOWN, x -> x.step(41, 1));
        Supplier<JamRules> made = RefusalsTest::fullAndRunning;
        refused(made, "item", ROOM, x -> x.item(50, 4800));
        refused(made, "OUTSIDE before ROOM: t", OUTSIDE, x -> x.item(50, 4799));
        refused(made, "OUTSIDE before ROOM: length", OUTSIDE, x -> x.item(1001, 4800));
        refused(made, "OUTSIDE, though there were 40", OUTSIDE, x -> x.plant(7, 10));
        refused(made, "item 61", UNKNOWN, x -> x.feed(61));
        refused(made, "sensor 8", UNKNOWN, x -> x.edge(8, true, 10));
        refused(made, "cleared", STATE, x -> x.step(40, 4));
    }

    private static void whatChangesNothingThoughItIsNotRefused() {
        Due.about("answers that change nothing");
        Supplier<JamRules> made = RefusalsTest::running;
        refused(made, "a step that is not the next one", 0, x -> x.step(4, 2));
        refused(made, "a step that is not the next one", 0, x -> x.step(4, 5));
        refused(made, "an item that was fed before", 0, x -> x.feed(1));
        refused(made, "none on the list", -1, x -> x.listed(1));
        refused(made, "none in doubt", -1, x -> x.doubt(4, 0));
        refused(made, "no alarm", -1, x -> x.alarm(3, 0));
        refused(made, "the belt runs", 1, x -> x.goesOn() ? 1 : 0);
        refused(RefusalsTest::standing, "a step that is not the next one", 0, x -> x.step(2, 5));
        refused(RefusalsTest::standing, "a step that was done", 0, x -> x.step(2, 4));
        refused(RefusalsTest::fullAndRunning, "a 41st fault", 0, x -> x.plant(1, 10));
    }
}

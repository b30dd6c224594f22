/**
 * Faults on a belt of a post, by what its sensors tell. The document DOC.md says what each call
 * answers; its words (due, seen, lost, in doubt, cleared ..) are the names used here.
 */
public final class JamRules {
    public static final int UNKNOWN = -11, OUTSIDE = -12, STATE = -13, ROOM = -14;

    private static final int MOST_SENSORS = 8, MOST_ITEMS = 60, MOST_FAULTS = 40;
    private static final int MOST_UNCLEARED = 5;

    private static final int STRANGER = 1, LOST = 2, DOUBLE = 3, SHORT = 4, JAM = 5, STOP = 6;
    private static final int KINDS = 6;

    private static final int NONE = -1;
    private static final int NOBODY = 0;
    private static final int NO_FAULT = 0;

    private static final long LATEST = 1000000000L;
    private static final long FARTHEST = 100000L, SENSOR_GAP = 100L;
    private static final long SHORTEST = 50L, LONGEST = 1000L, ITEM_GAP = 30L;
    private static final long SLACK = 15L;
    private static final long JAM_AFTER = 500L;
    private static final long AGAIN_WITHIN = 10000L;

    private static final int THREW_RANK = 9;
    /** The rank of a kind stands at the kind; nothing is of kind 0. */
    private static final int[] RANKS = {0, 2, 4, 3, 1, 6, 7};

    private static final int MOST_STEPS = 3, LAST_STEP_KIND = 5;
    private static final int RESETTING_STEP = 5;
    /** Three places for each kind from 1 on; 0 stands behind the last step of a shorter row. */
    private static final int[] STEPS = {
        1, 0, 0,
        1, 2, 0,
        1, 3, 0,
        1, 0, 0,
        4, 3, 5,
        4, 5, 0,
    };

    private static final int PLANTED_CAUSE = 90, THREW_CAUSE = 2, AGAIN_CAUSE = 1;

    private final Sensor[] sensors = new Sensor[MOST_SENSORS];
    private int sensorCount = 0;

    /** Items and faults stand at their numbers, so place 0 stays empty. */
    private final Item[] items = new Item[MOST_ITEMS + 1];
    private int itemCount = 0;

    private final Fault[] faults = new Fault[MOST_FAULTS + 1];
    private int faultCount = 0;
    /** Faults are cleared in the order of their numbers, so the cleared ones are 1 to this. */
    private int clearedCount = 0;

    private final boolean[] ruleStops = new boolean[KINDS + 1];
    private final boolean[] ruleThrows = new boolean[KINDS + 1];

    private final int[] list = new int[MOST_ITEMS];
    private int listSize = 0;

    private long clock = 0L;

    public JamRules() {
        ruleStops[JAM] = true;
        ruleStops[STOP] = true;
    }

    // ---- the face ----

    public int sensor(long at) {
        long before = sensorCount == 0 ? 0L : sensors[sensorCount - 1].place;
        if (at < before + SENSOR_GAP || at > FARTHEST) {
            return OUTSIDE;
        }
        if (itemCount > 0) {
            return STATE;
        }
        if (sensorCount >= MOST_SENSORS) {
            return ROOM;
        }
        sensors[sensorCount] = new Sensor(at);
        sensorCount++;
        return sensorCount - 1;
    }

    public int item(long length, long t) {
        if (length < SHORTEST || length > LONGEST || !isTime(t) || t < earliestHead()) {
            return OUTSIDE;
        }
        if (!goesOn() || sensorCount == 0) {
            return STATE;
        }
        if (itemCount >= MOST_ITEMS) {
            return ROOM;
        }
        itemCount++;
        items[itemCount] = new Item(length, t);
        return itemCount;
    }

    public int edge(int sensor, boolean dark, long t) {
        if (!isSensor(sensor)) {
            return UNKNOWN;
        }
        if (!isTime(t)) {
            return OUTSIDE;
        }
        if (!goesOn() || sensors[sensor].dark == dark) {
            return STATE;
        }
        clock = t;
        int before = faultCount;
        tellJams();
        if (goesOn()) {
            if (dark) {
                becomeDark(sensor);
            } else {
                becomeLight(sensor);
            }
        }
        return faultCount > before ? before + 1 : NO_FAULT;
    }

    public int doubt(int fault, int i) {
        if (!isFault(fault)) {
            return UNKNOWN;
        }
        if (i < 0) {
            return NONE;
        }
        int toPass = i;
        for (int item = 1; item <= itemCount; item++) {
            if (faults[fault].doubts(item)) {
                if (toPass == 0) {
                    return item;
                }
                toPass--;
            }
        }
        return NONE;
    }

    public int cause(int fault) {
        if (!isFault(fault)) {
            return UNKNOWN;
        }
        Fault asked = faults[fault];
        if (asked.sensor == NONE && asked.kind != STOP) {
            return PLANTED_CAUSE + asked.kind;
        }
        int plain = 10 * asked.kind;
        if (asked.threw) {
            return plain + THREW_CAUSE;
        }
        return cameAgain(fault) ? plain + AGAIN_CAUSE : plain;
    }

    public int step(int fault, int kind) {
        if (!isFault(fault)) {
            return UNKNOWN;
        }
        if (kind < 1 || kind > LAST_STEP_KIND) {
            return OUTSIDE;
        }
        if (fault != clearedCount + 1) {
            return STATE;
        }
        Fault stepped = faults[fault];
        if (nextStep(stepped) != kind) {
            return 0;
        }
        stepped.stepsDone++;
        if (kind == RESETTING_STEP) {
            resetCounts();
        }
        if (nextStep(stepped) == 0) {
            clear(fault);
        }
        return 1;
    }

    public int feed(int item) {
        if (!isItem(item)) {
            return UNKNOWN;
        }
        Item fed = items[item];
        if (fed.fed) {
            return 0;
        }
        if (!fed.listed) {
            return STATE;
        }
        fed.fed = true;
        takeOffList(item);
        return 1;
    }

    public int listed(int i) {
        return i >= 0 && i < listSize ? list[i] : NONE;
    }

    public int rule(int kind, int does, boolean throwsUp) {
        if (!isKind(kind) || does < 0 || does > 1) {
            return OUTSIDE;
        }
        int before = ruleStops[kind] ? 1 : 0;
        ruleStops[kind] = does == 1;
        ruleThrows[kind] = throwsUp;
        return before;
    }

    public int plant(int kind, long t) {
        if (!isKind(kind) || !isTime(t)) {
            return OUTSIDE;
        }
        if (!goesOn()) {
            return STATE;
        }
        // The clock is the time of a planted fault, and one beyond the last that there may be is none.
        if (faultCount >= MOST_FAULTS) {
            return NO_FAULT;
        }
        clock = t;
        return tell(kind, NONE);
    }

    public int alarm(int i, int what) {
        if (what < 0 || what > 4) {
            return OUTSIDE;
        }
        int number = faultByRank(i);
        if (!isFault(number)) {
            return NONE;
        }
        Fault raised = faults[number];
        switch (what) {
            case 0:
                return number;
            case 1:
                return raised.rank();
            case 2:
                return raised.kind;
            case 3:
                return raised.sensor;
            default:
                return (int) raised.time;
        }
    }

    public int count(int sensor) {
        return isSensor(sensor) ? sensors[sensor].edges : UNKNOWN;
    }

    public boolean goesOn() {
        if (faultCount - clearedCount > MOST_UNCLEARED) {
            return false;
        }
        for (int fault = clearedCount + 1; fault <= faultCount; fault++) {
            if (faults[fault].stops) {
                return false;
            }
        }
        return true;
    }

    // ---- what numbers may be ----

    private boolean isSensor(int number) {
        return number >= 0 && number < sensorCount;
    }

    private boolean isItem(int number) {
        return number >= 1 && number <= itemCount;
    }

    private boolean isFault(int number) {
        return number >= 1 && number <= faultCount;
    }

    private static boolean isKind(int kind) {
        return kind >= 1 && kind <= KINDS;
    }

    private boolean isTime(long t) {
        return t >= clock && t <= LATEST;
    }

    private long earliestHead() {
        if (itemCount == 0) {
            return 0L;
        }
        Item before = items[itemCount];
        return before.headTime + before.length + ITEM_GAP;
    }

    // ---- an edge (its time is the clock) ----

    /** All sensors are asked before it is looked at whether the belt stands by what they tell. */
    private void tellJams() {
        for (int s = 0; s < sensorCount; s++) {
            Sensor asked = sensors[s];
            if (asked.dark && !asked.jamTold && clock - asked.since > JAM_AFTER + lengthAt(asked)) {
                asked.jamTold = true;
                tell(JAM, s);
            }
        }
    }

    private long lengthAt(Sensor asked) {
        return isItem(asked.darkBy) ? items[asked.darkBy].length : 0L;
    }

    private void becomeDark(int s) {
        sensors[s].edges++;
        loseLateItems(s);
        int next = leastUnseen(s);
        if (isComing(next, s)) {
            items[next].beSeenBy(s);
            sensors[s].darken(next, clock);
        } else {
            tell(STRANGER, s);
            sensors[s].darken(NOBODY, clock);
        }
    }

    private void loseLateItems(int s) {
        for (int i = 1; i <= itemCount; i++) {
            if (isAwaited(i, s) && clock - dueAt(i, s) > SLACK) {
                int fault = tell(LOST, s);
                items[i].takeOffBelt(fault);
            }
        }
    }

    private void becomeLight(int s) {
        int passed = sensors[s].darkBy;
        if (isItem(passed)) {
            judgeLength(s, passed);
            if (s == sensorCount - 1) {
                items[passed].leaveBelt();
            }
        }
        sensors[s].lighten();
    }

    private void judgeLength(int s, int passed) {
        long longer = clock - sensors[s].since - items[passed].length;
        if (longer > SLACK) {
            int fault = tell(DOUBLE, s);
            items[passed].takeOffBelt(fault);
            int next = leastUnseen(s);
            if (isComing(next, s)) {
                items[next].takeOffBelt(fault);
            }
        } else if (longer < -SLACK) {
            tell(SHORT, s);
        }
    }

    private boolean isAwaited(int i, int s) {
        return items[i].isOnBelt() && !items[i].isSeenBy(s);
    }

    private int leastUnseen(int s) {
        for (int i = 1; i <= itemCount; i++) {
            if (isAwaited(i, s)) {
                return i;
            }
        }
        return NOBODY;
    }

    private boolean isComing(int i, int s) {
        return isItem(i) && dueAt(i, s) <= clock + SLACK;
    }

    private long dueAt(int i, int s) {
        return items[i].headTime + sensors[s].place;
    }

    // ---- faults ----

    /** A new fault at the clock's time; what an edge takes off the belt by it is taken off afterwards. */
    private int tell(int kind, int s) {
        if (faultCount >= MOST_FAULTS) {
            return NO_FAULT;
        }
        boolean threw = ruleThrows[kind];
        if (threw) {
            ruleStops[kind] = true;
            ruleThrows[kind] = false;
        }
        Fault told = new Fault(kind, s, clock);
        told.threw = threw;
        told.stops = ruleStops[kind];
        told.doubt = doubtAt(s);
        faultCount++;
        faults[faultCount] = told;
        return faultCount;
    }

    private long doubtAt(int s) {
        long all = 0L;
        if (isSensor(s)) {
            for (int i = 1; i <= itemCount; i++) {
                if (isInDoubt(i, s)) {
                    all |= 1L << i;
                }
            }
        }
        return all;
    }

    private boolean isInDoubt(int i, int s) {
        Item asked = items[i];
        if (!asked.isOnBelt()) {
            return false;
        }
        if (asked.isSeenBy(s)) {
            return sensors[s].dark && sensors[s].darkBy == i;
        }
        return s == 0 ? asked.headTime <= clock : asked.isSeenBy(s - 1);
    }

    private boolean cameAgain(int fault) {
        Fault later = faults[fault];
        for (int f = 1; f < fault; f++) {
            if (later.time - faults[f].time <= AGAIN_WITHIN && isSameTrouble(faults[f], later)) {
                return true;
            }
        }
        return false;
    }

    /** Planted ones are at no sensor, so none of them is ever at the sensor of a fault that was told. */
    private static boolean isSameTrouble(Fault earlier, Fault later) {
        return later.kind == STOP ? earlier.kind == STOP : earlier.sensor == later.sensor;
    }

    private int faultByRank(int i) {
        if (i < 0) {
            return NO_FAULT;
        }
        int toPass = i;
        for (int rank = THREW_RANK; rank > 0; rank--) {
            for (int fault = clearedCount + 1; fault <= faultCount; fault++) {
                if (faults[fault].rank() == rank) {
                    if (toPass == 0) {
                        return fault;
                    }
                    toPass--;
                }
            }
        }
        return NO_FAULT;
    }

    // ---- clearing ----

    /** 0 behind the last step. */
    private static int nextStep(Fault asked) {
        if (asked.stepsDone >= MOST_STEPS) {
            return 0;
        }
        return STEPS[(asked.kind - 1) * MOST_STEPS + asked.stepsDone];
    }

    private void resetCounts() {
        for (int s = 0; s < sensorCount; s++) {
            sensors[s].edges = 0;
        }
    }

    private void clear(int fault) {
        Fault cleared = faults[fault];
        clearedCount = fault;
        if (cleared.stops) {
            emptyBelt(fault);
        }
        for (int i = 1; i <= itemCount; i++) {
            if (cleared.doubts(i) && items[i].isOff()) {
                putOnList(i);
            }
        }
        if (cleared.stops) {
            listOffBy(fault);
        }
    }

    private void emptyBelt(int fault) {
        for (int i = 1; i <= itemCount; i++) {
            if (items[i].isOnBelt()) {
                items[i].takeOffBelt(fault);
            }
        }
        for (int s = 0; s < sensorCount; s++) {
            sensors[s].lighten();
        }
    }

    private void listOffBy(int fault) {
        for (int i = 1; i <= itemCount; i++) {
            if (items[i].isOff() && items[i].offBy == fault) {
                putOnList(i);
            }
        }
    }

    /** An item comes on the list once at most: when it has been fed, it stays marked as listed. */
    private void putOnList(int i) {
        if (!items[i].listed && listSize < MOST_ITEMS) {
            items[i].listed = true;
            list[listSize] = i;
            listSize++;
        }
    }

    private void takeOffList(int i) {
        int kept = 0;
        for (int k = 0; k < listSize; k++) {
            if (list[k] != i) {
                list[kept] = list[k];
                kept++;
            }
        }
        listSize = kept;
    }

    // ---- what is held ----

    private static final class Sensor {
        final long place;
        int edges = 0;
        boolean dark = false;
        int darkBy = NOBODY;
        long since = 0L;
        boolean jamTold = false;

        Sensor(long place) {
            this.place = place;
        }

        void darken(int by, long t) {
            dark = true;
            darkBy = by;
            since = t;
            jamTold = false;
        }

        void lighten() {
            dark = false;
            darkBy = NOBODY;
        }
    }

    private static final class Item {
        private static final int ON_BELT = 0, LEFT = 1, OFF = 2;

        final long length;
        final long headTime;
        int offBy = NO_FAULT;
        boolean listed = false;
        boolean fed = false;
        private int where = ON_BELT;
        private int seenBits = 0;

        Item(long length, long headTime) {
            this.length = length;
            this.headTime = headTime;
        }

        boolean isOnBelt() {
            return where == ON_BELT;
        }

        boolean isOff() {
            return where == OFF;
        }

        boolean isSeenBy(int s) {
            return (seenBits >> s & 1) != 0;
        }

        void beSeenBy(int s) {
            seenBits |= 1 << s;
        }

        /** It stays off by the fault that took it off first. */
        void takeOffBelt(int fault) {
            if (where != OFF) {
                where = OFF;
                offBy = fault;
            }
        }

        void leaveBelt() {
            if (where == ON_BELT) {
                where = LEFT;
            }
        }
    }

    private static final class Fault {
        final int kind;
        /** NONE: it was planted. */
        final int sensor;
        final long time;
        boolean threw = false;
        boolean stops = false;
        /** A bit for each item: there are fewer than a long has. */
        long doubt = 0L;
        int stepsDone = 0;

        Fault(int kind, int sensor, long time) {
            this.kind = kind;
            this.sensor = sensor;
            this.time = time;
        }

        boolean doubts(int item) {
            return (doubt >> item & 1L) != 0L;
        }

        int rank() {
            return threw ? THREW_RANK : RANKS[kind];
        }
    }
}

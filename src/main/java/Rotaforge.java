/**
 * A rota of persons who are woken by incidents, a line of rings over which versions are rolled
 * out, and switches that depend on one another. README.md says how to use it.
 */
public final class Rotaforge {
    /** There is none. */
    public static final int NONE = -1;

    private static final int PERSONS = 6;
    private static final int RINGS = 4;
    private static final int SWITCHES = 8;
    private static final int TOP_LEVEL = 4;
    private static final int MOST_VERSIONS = 20;
    private static final int MOST_DEFECTS = 24;
    private static final int MOST_CHANGES = 200;
    private static final int MOST_INCIDENTS = 200;
    private static final int LAST_TIME = 560;
    private static final int MOST_HALVES = 28;
    private static final int WEEK_HALVES = 14;
    private static final int REST_HALVES = 12;
    private static final int HOLD_HALVES = 2;
    /** The last week that begins is LAST_TIME / WEEK_HALVES, and the one after it has a holder too. */
    private static final int WEEKS = LAST_TIME / WEEK_HALVES + 2;
    /** What a change can set: the switches first, then the rings. */
    private static final int SUBJECTS = SWITCHES + RINGS;

    private final Needs needMap;
    private final Defects defects;
    private final ChangeLog changeLog;
    private final IncidentLog incidentLog;
    private final Rota rota;
    private int built;
    private int now;

    public Rotaforge() {
        needMap = new Needs();
        defects = new Defects();
        changeLog = new ChangeLog();
        incidentLog = new IncidentLog();
        rota = new Rota();
        built = 1;
        now = 0;
    }

    // ---- what there is

    public int build() throws IllegalStateException {
        if (built >= MOST_VERSIONS) {
            throw new IllegalStateException("there are 20 versions");
        }
        built++;
        return built - 1;
    }

    public int defect(int version, int control, boolean isOn)
            throws IndexOutOfBoundsException, IllegalStateException {
        requireVersion(version);
        if (control != NONE) {
            requireSwitch(control);
        }
        if (defects.total() >= MOST_DEFECTS) {
            throw new IllegalStateException("there are 24 defects");
        }
        defects.add(version, control, isOn);
        return defects.total();
    }

    public int need(int control, int other, boolean needs)
            throws IndexOutOfBoundsException, IllegalArgumentException, IllegalStateException {
        requireSwitch(control);
        requireSwitch(other);
        if (control == other) {
            throw new IllegalArgumentException("a switch does not need itself");
        }
        if (needs && needMap.reaches(other, control)) {
            throw new IllegalStateException("the other switch needs this one");
        }
        needMap.put(control, other, needs);
        return needMap.directCount(control);
    }

    // ---- changes

    public int turn(int person, int control, int level)
            throws IndexOutOfBoundsException, IllegalArgumentException, IllegalStateException {
        requirePerson(person);
        requireSwitch(control);
        if (level < 0 || level > TOP_LEVEL) {
            throw new IllegalArgumentException("a level is 0 to 4");
        }
        requireCanChange(person);
        if (changeLog.valueNow(control) == level) {
            throw new IllegalStateException("the switch has this level");
        }
        return changeLog.add(person, now, control, level);
    }

    public int roll(int person, int ring, int version)
            throws IndexOutOfBoundsException, IllegalStateException {
        requirePerson(person);
        requireRing(ring);
        requireVersion(version);
        requireCanChange(person);
        if (runs(ring) == version) {
            throw new IllegalStateException("the ring runs this version");
        }
        if (isHeldBack(ring, version)) {
            throw new IllegalStateException("the ring is held back");
        }
        return changeLog.add(person, now, subjectOfRing(ring), version);
    }

    public int revert(int person, int change) throws IndexOutOfBoundsException, IllegalStateException {
        requirePerson(person);
        requireChange(change);
        requireCanChange(person);
        int subject = changeLog.subjectOf(change);
        if (changeLog.latestOf(subject) != change) {
            throw new IllegalStateException("a later change is of the same switch or ring");
        }
        return changeLog.add(person, now, subject, changeLog.valueWithout(change));
    }

    // ---- weeks and time

    public int takeOver(int person) throws IndexOutOfBoundsException, IllegalStateException {
        requirePerson(person);
        int next = weekNow() + 1;
        int former = rota.holderOf(next);
        if (person == former || person == rota.holderOf(weekNow())) {
            throw new IllegalStateException("the person is the holder of this week or of the next one");
        }
        rota.giveWeek(next, person);
        return former;
    }

    public int pass(int halves) throws IllegalArgumentException, IllegalStateException {
        if (halves < 1 || halves > MOST_HALVES) {
            throw new IllegalArgumentException("1 to 28 halves pass");
        }
        if (now + halves > LAST_TIME) {
            throw new IllegalStateException("the time would be above 560");
        }
        int before = incidentLog.total();
        for (int i = 0; i < halves; i++) {
            int firstOfHalf = incidentLog.total();
            beginHalf();
            for (int ring = 0; ring < RINGS; ring++) {
                settleRing(ring);
            }
            callIfOpen(firstOfHalf);
        }
        return incidentLog.total() - before;
    }

    public int time() {
        return now;
    }

    public int holder(int week) throws IndexOutOfBoundsException {
        if (week < 0 || week > weekNow() + 1) {
            throw new IndexOutOfBoundsException("no holder is known of such a week");
        }
        return rota.holderOf(week);
    }

    public int near(int person) throws IndexOutOfBoundsException {
        requirePerson(person);
        return rota.nearness(person, weekNow() + 2);
    }

    public int blots(int person) throws IndexOutOfBoundsException {
        requirePerson(person);
        return rota.blotsOf(person);
    }

    public boolean rests(int person) throws IndexOutOfBoundsException {
        requirePerson(person);
        return rota.isResting(person, now);
    }

    public int onCall() {
        return rota.dutyAt(now);
    }

    public int calls(int person, boolean isNight) throws IndexOutOfBoundsException {
        requirePerson(person);
        return rota.callCount(person, isNight);
    }

    public int missed() {
        return rota.missedCount();
    }

    // ---- rings and switches as they are

    public int versions() {
        return built;
    }

    public int version(int ring) throws IndexOutOfBoundsException {
        requireRing(ring);
        return runs(ring);
    }

    public int level(int control) throws IndexOutOfBoundsException {
        requireSwitch(control);
        return changeLog.valueNow(control);
    }

    public boolean isOn(int control, int ring) throws IndexOutOfBoundsException {
        requireSwitch(control);
        requireRing(ring);
        return hasBit(needMap.onAmong(setIn(ring)), control);
    }

    public boolean isFaulty(int ring) throws IndexOutOfBoundsException {
        requireRing(ring);
        return showsFault(ring);
    }

    public int rollable(int ring) throws IndexOutOfBoundsException {
        requireRing(ring);
        int next = ring == 0 ? built - 1 : runs(ring - 1);
        return runs(ring) == next || isHeldBack(ring, next) ? NONE : next;
    }

    // ---- changes and incidents

    public int changes() {
        return changeLog.total();
    }

    public int change(int change) throws IndexOutOfBoundsException {
        requireChange(change);
        int subject = changeLog.subjectOf(change);
        int told = 10000 * changeLog.personOf(change) + changeLog.valueOf(change);
        if (isSwitch(subject)) {
            return told + 100 * subject;
        }
        return told + 1000 + 100 * (subject - SWITCHES);
    }

    public int madeAt(int change) throws IndexOutOfBoundsException {
        requireChange(change);
        return changeLog.timeOf(change);
    }

    public boolean heals(int change, int ring) throws IndexOutOfBoundsException {
        requireChange(change);
        requireRing(ring);
        return showsFault(ring) && !showsFaultWithout(change, ring);
    }

    public int trace(int ring) throws IndexOutOfBoundsException {
        requireRing(ring);
        return latestHealing(ring);
    }

    public int traceByTrying(int ring) throws IndexOutOfBoundsException {
        requireRing(ring);
        if (!showsFault(ring)) {
            return NONE;
        }
        for (int change = changeLog.total() - 1; change >= 0; change--) {
            if (!showsFaultWithout(change, ring)) {
                return change;
            }
        }
        return NONE;
    }

    public int incidents() {
        return incidentLog.total();
    }

    public int openIn(int ring) throws IndexOutOfBoundsException {
        requireRing(ring);
        return incidentLog.openOf(ring);
    }

    public int openedAt(int incident) throws IndexOutOfBoundsException {
        requireIncident(incident);
        return 10 * incidentLog.startOf(incident) + incidentLog.ringOf(incident);
    }

    public int closedAt(int incident) throws IndexOutOfBoundsException {
        requireIncident(incident);
        return incidentLog.endOf(incident);
    }

    public int tracedTo(int incident) throws IndexOutOfBoundsException {
        requireIncident(incident);
        return incidentLog.causeOf(incident);
    }

    public int firstCalled(int incident) throws IndexOutOfBoundsException {
        requireIncident(incident);
        return incidentLog.wokenBy(incident);
    }

    // ---- what a call requires

    private static void requirePerson(int person) {
        if (person < 0 || person >= PERSONS) {
            throw new IndexOutOfBoundsException("no such person");
        }
    }

    private static void requireRing(int ring) {
        if (ring < 0 || ring >= RINGS) {
            throw new IndexOutOfBoundsException("no such ring");
        }
    }

    private static void requireSwitch(int control) {
        if (!isSwitch(control)) {
            throw new IndexOutOfBoundsException("no such switch");
        }
    }

    private void requireVersion(int version) {
        if (version < 0 || version >= built) {
            throw new IndexOutOfBoundsException("no such version");
        }
    }

    private void requireChange(int change) {
        if (change < 0 || change >= changeLog.total()) {
            throw new IndexOutOfBoundsException("no such change");
        }
    }

    private void requireIncident(int incident) {
        if (incident < 0 || incident >= incidentLog.total()) {
            throw new IndexOutOfBoundsException("no such incident");
        }
    }

    private void requireCanChange(int person) {
        if (rota.isResting(person, now)) {
            throw new IllegalStateException("the person rests");
        }
        if (changeLog.total() >= MOST_CHANGES) {
            throw new IllegalStateException("there are 200 changes");
        }
    }

    // ---- rings

    private static boolean isSwitch(int subject) {
        return subject >= 0 && subject < SWITCHES;
    }

    private static int subjectOfRing(int ring) {
        return SWITCHES + ring;
    }

    private static boolean hasBit(int bits, int place) {
        return (bits >> place & 1) == 1;
    }

    private static int withBit(int bits, int place, boolean isSet) {
        return isSet ? bits | 1 << place : bits & ~(1 << place);
    }

    private int weekNow() {
        return now / WEEK_HALVES;
    }

    private int runs(int ring) {
        return changeLog.valueNow(subjectOfRing(ring));
    }

    /** The switches that are set in a ring, as bits. */
    private int setIn(int ring) {
        int bits = 0;
        for (int control = 0; control < SWITCHES; control++) {
            bits = withBit(bits, control, changeLog.valueNow(control) > ring);
        }
        return bits;
    }

    private boolean isHeldBack(int ring, int version) {
        if (ring == 0) {
            return false;
        }
        int ahead = subjectOfRing(ring - 1);
        boolean isProven = changeLog.valueNow(ahead) == version
                && now - changeLog.sinceWhen(ahead) >= HOLD_HALVES;
        return !isProven || incidentLog.anyOpenBelow(ring);
    }

    private boolean showsFault(int ring) {
        return defects.anyShows(runs(ring), needMap.onAmong(setIn(ring)));
    }

    private boolean showsFaultWithout(int change, int ring) {
        int subject = changeLog.subjectOf(change);
        int value = changeLog.valueWithout(change);
        int version = subject == subjectOfRing(ring) ? value : runs(ring);
        int set = setIn(ring);
        if (isSwitch(subject)) {
            set = withBit(set, subject, value > ring);
        }
        return defects.anyShows(version, needMap.onAmong(set));
    }

    /** Only the latest change of a switch or ring can heal: without another one all is as it is. */
    private int latestHealing(int ring) {
        if (!showsFault(ring)) {
            return NONE;
        }
        int found = NONE;
        for (int subject = 0; subject < SUBJECTS; subject++) {
            int change = changeLog.latestOf(subject);
            boolean isOfRing = isSwitch(subject) || subject == subjectOfRing(ring);
            if (isOfRing && change > found && !showsFaultWithout(change, ring)) {
                found = change;
            }
        }
        return found;
    }

    // ---- a half passes

    private void beginHalf() {
        now++;
        if (now % WEEK_HALVES == 0) {
            rota.beginWeek(weekNow());
        }
    }

    private void settleRing(int ring) {
        if (!showsFault(ring)) {
            incidentLog.close(ring, now);
            return;
        }
        if (incidentLog.openOf(ring) != NONE || incidentLog.total() >= MOST_INCIDENTS) {
            return;
        }
        int cause = latestHealing(ring);
        incidentLog.open(ring, now, cause);
        if (cause != NONE) {
            rota.addBlot(changeLog.personOf(cause));
        }
    }

    /** The incidents from this one on opened in this half: they keep who is called in it. */
    private void callIfOpen(int firstOfHalf) {
        if (incidentLog.anyOpenBelow(RINGS)) {
            incidentLog.noteWoken(firstOfHalf, rota.callAt(now));
        }
    }

    /** A row of numbers; each place is looked at before it is used. */
    private static final class Row {
        private final int[] cells;

        Row(int length, int first) {
            cells = new int[length < 0 ? 0 : length];
            for (int i = 0; i < cells.length; i++) {
                cells[i] = first;
            }
        }

        /** The number at a place; NONE where the row has no such place. */
        int at(int place) {
            return place >= 0 && place < cells.length ? cells[place] : NONE;
        }

        void put(int place, int number) {
            if (place >= 0 && place < cells.length) {
                cells[place] = number;
            }
        }
    }

    /** Which switches need which; switches stand as bits. */
    private static final class Needs {
        private final Row direct;
        /** Each switch itself, with all that it needs, directly or by others. */
        private final Row whole;

        Needs() {
            direct = new Row(SWITCHES, 0);
            whole = new Row(SWITCHES, 0);
            for (int control = 0; control < SWITCHES; control++) {
                whole.put(control, 1 << control);
            }
        }

        boolean reaches(int control, int other) {
            return hasBit(whole.at(control), other);
        }

        int directCount(int control) {
            return Integer.bitCount(direct.at(control));
        }

        void put(int control, int other, boolean isNeeded) {
            direct.put(control, withBit(direct.at(control), other, isNeeded));
            for (int each = 0; each < SWITCHES; each++) {
                whole.put(each, gather(each));
            }
        }

        private int gather(int control) {
            int bits = 1 << control;
            // Each round goes a need further, and no chain of needs has more than all switches.
            for (int round = 1; round < SWITCHES; round++) {
                for (int each = 0; each < SWITCHES; each++) {
                    if (hasBit(bits, each)) {
                        bits = bits | direct.at(each);
                    }
                }
            }
            return bits;
        }

        /** The switches that are on where these are set. */
        int onAmong(int set) {
            int bits = 0;
            for (int control = 0; control < SWITCHES; control++) {
                bits = withBit(bits, control, (whole.at(control) & ~set) == 0);
            }
            return bits;
        }
    }

    /** The defects of each version: whether one shows always, and by which switches, as bits. */
    private static final class Defects {
        private final Row always;
        private final Row whereOn;
        private final Row whereOff;
        private int count;

        Defects() {
            always = new Row(MOST_VERSIONS, 0);
            whereOn = new Row(MOST_VERSIONS, 0);
            whereOff = new Row(MOST_VERSIONS, 0);
            count = 0;
        }

        int total() {
            return count;
        }

        void add(int version, int control, boolean isOn) {
            count++;
            if (control == NONE) {
                always.put(version, 1);
            } else if (isOn) {
                whereOn.put(version, withBit(whereOn.at(version), control, true));
            } else {
                whereOff.put(version, withBit(whereOff.at(version), control, true));
            }
        }

        boolean anyShows(int version, int on) {
            return always.at(version) == 1
                    || (whereOn.at(version) & on) != 0
                    || (whereOff.at(version) & ~on) != 0;
        }
    }

    /** The changes in their order; what a switch or ring is set to is told by its latest one. */
    private static final class ChangeLog {
        private final Row persons;
        private final Row times;
        private final Row subjects;
        private final Row values;
        /** The change of the same subject ahead of each. */
        private final Row earlier;
        private final Row latest;
        private int count;

        ChangeLog() {
            persons = new Row(MOST_CHANGES, NONE);
            times = new Row(MOST_CHANGES, NONE);
            subjects = new Row(MOST_CHANGES, NONE);
            values = new Row(MOST_CHANGES, NONE);
            earlier = new Row(MOST_CHANGES, NONE);
            latest = new Row(SUBJECTS, NONE);
            count = 0;
        }

        int total() {
            return count;
        }

        int add(int person, int time, int subject, int value) {
            int change = count;
            persons.put(change, person);
            times.put(change, time);
            subjects.put(change, subject);
            values.put(change, value);
            earlier.put(change, latest.at(subject));
            latest.put(subject, change);
            count++;
            return change;
        }

        int personOf(int change) {
            return persons.at(change);
        }

        int timeOf(int change) {
            return times.at(change);
        }

        int subjectOf(int change) {
            return subjects.at(change);
        }

        int valueOf(int change) {
            return values.at(change);
        }

        int latestOf(int subject) {
            return latest.at(subject);
        }

        int valueNow(int subject) {
            int last = latest.at(subject);
            return last == NONE ? 0 : values.at(last);
        }

        int sinceWhen(int subject) {
            int last = latest.at(subject);
            return last == NONE ? 0 : times.at(last);
        }

        /** What the subject of a change is set to without it. */
        int valueWithout(int change) {
            int last = latest.at(subjects.at(change));
            int other = last == change ? earlier.at(change) : last;
            return other == NONE ? 0 : values.at(other);
        }
    }

    /** The incidents in their order, and which are open. */
    private static final class IncidentLog {
        private final Row rings;
        private final Row starts;
        private final Row ends;
        private final Row causes;
        private final Row woken;
        private final Row openByRing;
        private int count;

        IncidentLog() {
            rings = new Row(MOST_INCIDENTS, NONE);
            starts = new Row(MOST_INCIDENTS, NONE);
            ends = new Row(MOST_INCIDENTS, NONE);
            causes = new Row(MOST_INCIDENTS, NONE);
            woken = new Row(MOST_INCIDENTS, NONE);
            openByRing = new Row(RINGS, NONE);
            count = 0;
        }

        int total() {
            return count;
        }

        void open(int ring, int time, int cause) {
            rings.put(count, ring);
            starts.put(count, time);
            causes.put(count, cause);
            openByRing.put(ring, count);
            count++;
        }

        void close(int ring, int time) {
            int incident = openByRing.at(ring);
            if (incident != NONE) {
                ends.put(incident, time);
                openByRing.put(ring, NONE);
            }
        }

        void noteWoken(int firstIncident, int person) {
            for (int incident = firstIncident; incident < count; incident++) {
                woken.put(incident, person);
            }
        }

        boolean anyOpenBelow(int bound) {
            for (int ring = 0; ring < bound; ring++) {
                if (openByRing.at(ring) != NONE) {
                    return true;
                }
            }
            return false;
        }

        int openOf(int ring) {
            return openByRing.at(ring);
        }

        int ringOf(int incident) {
            return rings.at(incident);
        }

        int startOf(int incident) {
            return starts.at(incident);
        }

        int endOf(int incident) {
            return ends.at(incident);
        }

        int causeOf(int incident) {
            return causes.at(incident);
        }

        int wokenBy(int incident) {
            return woken.at(incident);
        }
    }

    /** The weeks with their holders, and what each person has had of blots, calls and rest. */
    private static final class Rota {
        private final Row holders;
        private final Row blotCounts;
        /** The last half of the rest after a person's latest call at night. */
        private final Row restEnds;
        private final Row dayCalls;
        private final Row nightCalls;
        private int missedCalls;

        Rota() {
            holders = new Row(WEEKS, NONE);
            holders.put(0, 0);
            holders.put(1, 1);
            blotCounts = new Row(PERSONS, 0);
            restEnds = new Row(PERSONS, NONE);
            dayCalls = new Row(PERSONS, 0);
            nightCalls = new Row(PERSONS, 0);
            missedCalls = 0;
        }

        int holderOf(int week) {
            return holders.at(week);
        }

        void giveWeek(int week, int person) {
            holders.put(week, person);
        }

        int blotsOf(int person) {
            return blotCounts.at(person);
        }

        void addBlot(int person) {
            blotCounts.put(person, blotCounts.at(person) + 1);
        }

        int nearness(int person, int week) {
            for (int held = week - 1; held >= 0; held--) {
                if (holders.at(held) == person) {
                    return week - held + blotCounts.at(person);
                }
            }
            return week + 1 + blotCounts.at(person);
        }

        void beginWeek(int week) {
            blotCounts.put(holders.at(week), 0);
            holders.put(week + 1, nearestTo(week + 1));
        }

        private int nearestTo(int week) {
            int holderAhead = holders.at(week - 1);
            int nearest = NONE;
            int greatest = NONE;
            for (int person = 0; person < PERSONS; person++) {
                int found = nearness(person, week);
                if (person != holderAhead && found > greatest) {
                    nearest = person;
                    greatest = found;
                }
            }
            return nearest;
        }

        /** The rest begins only behind the half of the call. */
        boolean isResting(int person, int time) {
            int end = restEnds.at(person);
            return time <= end && time > end - REST_HALVES;
        }

        int dutyAt(int time) {
            int holder = holders.at(time / WEEK_HALVES);
            if (!isResting(holder, time)) {
                return holder;
            }
            int chosen = NONE;
            int most = NONE;
            for (int person = 0; person < PERSONS; person++) {
                if (!isResting(person, time) && blotCounts.at(person) > most) {
                    chosen = person;
                    most = blotCounts.at(person);
                }
            }
            return chosen;
        }

        /** Calls the person on call, and returns this person; NONE if the call is missed. */
        int callAt(int time) {
            int person = dutyAt(time);
            if (person == NONE) {
                missedCalls++;
            } else if (time % 2 == 0) {
                dayCalls.put(person, dayCalls.at(person) + 1);
            } else {
                nightCalls.put(person, nightCalls.at(person) + 1);
                restEnds.put(person, time + REST_HALVES);
            }
            return person;
        }

        int callCount(int person, boolean isNight) {
            return isNight ? nightCalls.at(person) : dayCalls.at(person);
        }

        int missedCount() {
            return missedCalls;
        }
    }
}

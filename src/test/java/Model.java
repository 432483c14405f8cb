import java.util.ArrayList;
import java.util.List;

/**
 * The document once more, as slowly and as near to its words as can be: nothing is kept but what
 * was told and made, and every answer is worked out anew by going through all of it.
 */
final class Model {
    private record Defect(int version, int control, boolean isOn) {
    }

    private record Change(int person, int time, boolean isOfRing, int subject, int value) {
        boolean isSameSubject(Change other) {
            return isOfRing == other.isOfRing && subject == other.subject;
        }
    }

    private static final class Incident {
        int ring;
        int opened;
        int closed = -1;
        int traced;
        int called = -1;
    }

    private int now = 0;
    private int built = 1;
    private int missedCalls = 0;
    private final List<Defect> defects = new ArrayList<>();
    private final boolean[][] direct = new boolean[8][8];
    private final List<Change> made = new ArrayList<>();
    private final List<Incident> incidents = new ArrayList<>();
    private final List<Integer> holders = new ArrayList<>(List.of(0, 1));
    private final int[] blotCounts = new int[6];
    private final boolean[][] restsIn = new boolean[6][600];
    private final int[][] callCounts = new int[6][2];

    private static void index(boolean isThere) {
        if (!isThere) {
            throw new IndexOutOfBoundsException();
        }
    }

    private static void argument(boolean isInRange) {
        if (!isInRange) {
            throw new IllegalArgumentException();
        }
    }

    private static void state(boolean isGood) {
        if (!isGood) {
            throw new IllegalStateException();
        }
    }

    private static boolean in(int number, int bound) {
        return 0 <= number && number < bound;
    }

    int build() {
        state(built < 20);
        return built++;
    }

    int defect(int version, int control, boolean isOn) {
        index(in(version, built) && (control == -1 || in(control, 8)));
        state(defects.size() < 24);
        defects.add(new Defect(version, control, isOn));
        return defects.size();
    }

    private boolean needs(int control, int other) {
        for (int s = 0; s < 8; s++) {
            if (direct[control][s] && (s == other || needs(s, other))) {
                return true;
            }
        }
        return false;
    }

    int need(int control, int other, boolean isNeeded) {
        index(in(control, 8) && in(other, 8));
        argument(control != other);
        state(!(isNeeded && needs(other, control)));
        direct[control][other] = isNeeded;
        int count = 0;
        for (boolean each : direct[control]) {
            count += each ? 1 : 0;
        }
        return count;
    }

    /** The level of a switch or the version of a ring, by all changes but one. */
    private int set(boolean isOfRing, int subject, int without) {
        int value = 0;
        for (int c = 0; c < made.size(); c++) {
            Change each = made.get(c);
            if (c != without && each.isOfRing() == isOfRing && each.subject() == subject) {
                value = each.value();
            }
        }
        return value;
    }

    private boolean on(int control, int ring, int without) {
        if (ring >= set(false, control, without)) {
            return false;
        }
        for (int s = 0; s < 8; s++) {
            if (direct[control][s] && !on(s, ring, without)) {
                return false;
            }
        }
        return true;
    }

    private boolean faulty(int ring, int without) {
        for (Defect each : defects) {
            if (each.version() == set(true, ring, without)
                    && (each.control() == -1 || on(each.control(), ring, without) == each.isOn())) {
                return true;
            }
        }
        return false;
    }

    private int add(int person, boolean isOfRing, int subject, int value) {
        made.add(new Change(person, now, isOfRing, subject, value));
        return made.size() - 1;
    }

    int turn(int person, int control, int level) {
        index(in(person, 6) && in(control, 8));
        argument(in(level, 5));
        state(!restsIn[person][now] && set(false, control, -1) != level && made.size() < 200);
        return add(person, false, control, level);
    }

    private boolean heldBack(int ring, int version) {
        if (ring == 0) {
            return false;
        }
        int since = 0;
        for (Change each : made) {
            if (each.isOfRing() && each.subject() == ring - 1) {
                since = each.time();
            }
        }
        if (set(true, ring - 1, -1) != version || since > now - 2) {
            return true;
        }
        for (Incident each : incidents) {
            if (each.closed == -1 && each.ring < ring) {
                return true;
            }
        }
        return false;
    }

    int roll(int person, int ring, int version) {
        index(in(person, 6) && in(ring, 4) && in(version, built));
        state(!restsIn[person][now] && set(true, ring, -1) != version && made.size() < 200
                && !heldBack(ring, version));
        return add(person, true, ring, version);
    }

    int revert(int person, int change) {
        index(in(person, 6) && in(change, made.size()));
        Change reverted = made.get(change);
        for (int c = change + 1; c < made.size(); c++) {
            state(!made.get(c).isSameSubject(reverted));
        }
        state(!restsIn[person][now] && made.size() < 200);
        return add(person, reverted.isOfRing(), reverted.subject(),
                set(reverted.isOfRing(), reverted.subject(), change));
    }

    int takeOver(int person) {
        index(in(person, 6));
        int week = now / 14;
        state(holders.get(week) != person && holders.get(week + 1) != person);
        return holders.set(week + 1, person);
    }

    private int nearTo(int person, int week) {
        int near = week + 1;
        for (int v = 0; v < week; v++) {
            if (holders.get(v) == person) {
                near = week - v;
            }
        }
        return near + blotCounts[person];
    }

    int pass(int halves) {
        argument(1 <= halves && halves <= 28);
        state(now + halves <= 560);
        int opened = 0;
        for (int i = 0; i < halves; i++) {
            opened += passOne();
        }
        return opened;
    }

    private int passOne() {
        now++;
        if (now % 14 == 0) {
            blotCounts[holders.get(now / 14)] = 0;
            int best = -1;
            for (int p = 5; p >= 0; p--) {
                if (p != holders.get(now / 14)
                        && (best == -1 || nearTo(p, now / 14 + 1) >= nearTo(best, now / 14 + 1))) {
                    best = p;
                }
            }
            holders.add(best);
        }
        int opened = 0;
        for (int ring = 0; ring < 4; ring++) {
            int open = openIn(ring);
            if (!faulty(ring, -1)) {
                if (open != -1) {
                    incidents.get(open).closed = now;
                }
            } else if (open == -1 && incidents.size() < 200) {
                opened++;
                Incident each = new Incident();
                each.ring = ring;
                each.opened = now;
                each.traced = trace(ring);
                incidents.add(each);
                if (each.traced != -1) {
                    blotCounts[made.get(each.traced).person()]++;
                }
            }
        }
        callIfOpen();
        return opened;
    }

    private void callIfOpen() {
        boolean isOpen = false;
        int person = onCall();
        for (Incident each : incidents) {
            isOpen |= each.closed == -1;
            if (each.opened == now) {
                each.called = person;
            }
        }
        if (isOpen && person == -1) {
            missedCalls++;
        } else if (isOpen) {
            callCounts[person][now % 2]++;
            for (int half = now + 1; now % 2 == 1 && half <= now + 12; half++) {
                restsIn[person][half] = true;
            }
        }
    }

    int time() {
        return now;
    }

    int holder(int week) {
        index(in(week, now / 14 + 2));
        return holders.get(week);
    }

    int near(int person) {
        index(in(person, 6));
        return nearTo(person, now / 14 + 2);
    }

    int blots(int person) {
        index(in(person, 6));
        return blotCounts[person];
    }

    boolean rests(int person) {
        index(in(person, 6));
        return restsIn[person][now];
    }

    int onCall() {
        if (!restsIn[holders.get(now / 14)][now]) {
            return holders.get(now / 14);
        }
        int best = -1;
        for (int p = 5; p >= 0; p--) {
            if (!restsIn[p][now] && (best == -1 || blotCounts[p] >= blotCounts[best])) {
                best = p;
            }
        }
        return best;
    }

    int calls(int person, boolean isNight) {
        index(in(person, 6));
        return callCounts[person][isNight ? 1 : 0];
    }

    int missed() {
        return missedCalls;
    }

    int versions() {
        return built;
    }

    int version(int ring) {
        index(in(ring, 4));
        return set(true, ring, -1);
    }

    int level(int control) {
        index(in(control, 8));
        return set(false, control, -1);
    }

    boolean isOn(int control, int ring) {
        index(in(control, 8) && in(ring, 4));
        return on(control, ring, -1);
    }

    boolean isFaulty(int ring) {
        index(in(ring, 4));
        return faulty(ring, -1);
    }

    int rollable(int ring) {
        index(in(ring, 4));
        int next = ring == 0 ? built - 1 : set(true, ring - 1, -1);
        return next == set(true, ring, -1) || heldBack(ring, next) ? -1 : next;
    }

    int changes() {
        return made.size();
    }

    int change(int change) {
        index(in(change, made.size()));
        Change each = made.get(change);
        return 10000 * each.person() + (each.isOfRing() ? 1000 : 0) + 100 * each.subject() + each.value();
    }

    int madeAt(int change) {
        index(in(change, made.size()));
        return made.get(change).time();
    }

    boolean heals(int change, int ring) {
        index(in(change, made.size()) && in(ring, 4));
        return faulty(ring, -1) && !faulty(ring, change);
    }

    int trace(int ring) {
        index(in(ring, 4));
        int found = -1;
        for (int c = 0; c < made.size(); c++) {
            if (heals(c, ring)) {
                found = c;
            }
        }
        return found;
    }

    int incidents() {
        return incidents.size();
    }

    int openIn(int ring) {
        index(in(ring, 4));
        for (int i = 0; i < incidents.size(); i++) {
            if (incidents.get(i).ring == ring && incidents.get(i).closed == -1) {
                return i;
            }
        }
        return -1;
    }

    int openedAt(int incident) {
        index(in(incident, incidents.size()));
        return 10 * incidents.get(incident).opened + incidents.get(incident).ring;
    }

    int closedAt(int incident) {
        index(in(incident, incidents.size()));
        return incidents.get(incident).closed;
    }

    int tracedTo(int incident) {
        index(in(incident, incidents.size()));
        return incidents.get(incident).traced;
    }

    int firstCalled(int incident) {
        index(in(incident, incidents.size()));
        return incidents.get(incident).called;
    }
}

/** All that can be seen of an object, as one text; the object's life ends with it (some 270 calls). */
final class Snapshot {
    private static final int PERSONS = 6;
    private static final int RINGS = 4;
    private static final int SWITCHES = 8;
    /** Of long logs only the end is looked at, so that the object stays under its 512 calls. */
    private static final int LOOKED_AT = 6;

    private Snapshot() {
    }

    static String of(Rotaforge x) {
        StringBuilder seen = new StringBuilder();
        seePersons(x, seen);
        seeRings(x, seen);
        seeSwitches(x, seen);
        seeLogs(x, seen);
        seeTheNextHalf(x, seen);
        seeHidden(x, seen);
        return seen.toString();
    }

    private static void seePersons(Rotaforge x, StringBuilder seen) {
        int week = x.time() / 14;
        seen.append("time ").append(x.time()).append(" holders ");
        seen.append(x.holder(week)).append(x.holder(week + 1));
        seen.append(" on call ").append(x.onCall()).append(" missed ").append(x.missed());
        for (int p = 0; p < PERSONS; p++) {
            seen.append(" person ").append(x.near(p)).append(' ').append(x.blots(p)).append(' ');
            seen.append(x.rests(p)).append(' ').append(x.calls(p, true)).append(' ').append(x.calls(p, false));
        }
    }

    private static void seeRings(Rotaforge x, StringBuilder seen) {
        seen.append(" versions ").append(x.versions());
        for (int r = 0; r < RINGS; r++) {
            seen.append(" ring ").append(x.version(r)).append(' ').append(x.isFaulty(r)).append(' ');
            seen.append(x.rollable(r)).append(' ').append(x.trace(r)).append(' ').append(x.openIn(r));
        }
    }

    private static void seeSwitches(Rotaforge x, StringBuilder seen) {
        for (int s = 0; s < SWITCHES; s++) {
            seen.append(" switch ").append(x.level(s));
            for (int r = 0; r < RINGS; r++) {
                seen.append(x.isOn(s, r) ? '+' : '-');
            }
        }
    }

    private static void seeLogs(Rotaforge x, StringBuilder seen) {
        int changes = x.changes();
        seen.append(" changes ").append(changes);
        for (int c = Math.max(0, changes - LOOKED_AT); c < changes; c++) {
            seen.append(' ').append(x.change(c)).append('@').append(x.madeAt(c));
        }
        int incidents = x.incidents();
        seen.append(" incidents ").append(incidents);
        for (int i = Math.max(0, incidents - LOOKED_AT); i < incidents; i++) {
            seen.append(' ').append(x.openedAt(i)).append(' ').append(x.closedAt(i)).append(' ');
            seen.append(x.tracedTo(i)).append(' ').append(x.firstCalled(i));
        }
    }

    private static void seeTheNextHalf(Rotaforge x, StringBuilder seen) {
        seen.append(" passed ").append(Check.outcome(() -> x.pass(1))).append(' ');
        seePersons(x, seen);
        seeRings(x, seen);
    }

    /** What shows only by more calls: the needs of each switch by each other, the defects, a version. */
    private static void seeHidden(Rotaforge x, StringBuilder seen) {
        for (int s = 0; s < SWITCHES; s++) {
            seen.append(" needs ");
            for (int other = 1; other < SWITCHES; other++) {
                seen.append(x.need(s, (s + other) % SWITCHES, false));
            }
        }
        seen.append(" defects ").append(Check.outcome(() -> x.defect(0, -1, true)));
        seen.append(" built ").append(Check.outcome(() -> x.build()));
    }
}

/** All that can be seen of an object, as one text; the object's life ends with it. */
final class Snapshot {
    private static final int PERSONS = 6;
    private static final int RINGS = 4;
    private static final int SWITCHES = 8;
    /** Of long logs only the end is looked at, so that the object stays under its 512 calls. */
    private static final int LOOKED_AT = 6;

    private Snapshot() {
    }

    static String of(Rotaforge x) {
        StringBuilder seen = new StringBuilder();
        seePersons(x, seen);
        seeRings(x, seen);
        seeLogs(x, seen);
        seeHidden(x, seen);
        return seen.toString();
    }

    private static void seePersons(Rotaforge x, StringBuilder seen) {
        int week = x.time() / 14;
        seen.append("time ").append(x.time()).append(" holders ");
        seen.append(x.holder(week)).append(x.holder(week + 1));
        seen.append(" on call ").append(x.onCall()).append(" missed ").append(x.missed());
        for (int p = 0; p < PERSONS; p++) {
            seen.append(" person ").append(x.near(p)).append(' ').append(x.blots(p)).append(' ');
            seen.append(x.rests(p)).append(' ').append(x.calls(p, true)).append(' ').append(x.calls(p, false));
        }
    }

    private static void seeRings(Rotaforge x, StringBuilder seen) {
        seen.append(" versions ").append(x.versions());
        for (int r = 0; r < RINGS; r++) {
            seen.append(" ring ").append(x.version(r)).append(' ').append(x.isFaulty(r)).append(' ');
            seen.append(x.rollable(r)).append(' ').append(x.trace(r)).append(' ').append(x.openIn(r));
        }
        for (int s = 0; s < SWITCHES; s++) {
            seen.append(" switch ").append(x.level(s));
            for (int r = 0; r < RINGS; r++) {
                seen.append(x.isOn(s, r) ? '+' : '-');
            }
        }
    }

    private static void seeLogs(Rotaforge x, StringBuilder seen) {
        seen.append(" changes ").append(x.changes());
        for (int c = Math.max(0, x.changes() - LOOKED_AT); c < x.changes(); c++) {
            seen.append(' ').append(x.change(c)).append('@').append(x.madeAt(c));
        }
        seen.append(" incidents ").append(x.incidents());
        for (int i = Math.max(0, x.incidents() - LOOKED_AT); i < x.incidents(); i++) {
            seen.append(' ').append(x.openedAt(i)).append(' ').append(x.closedAt(i)).append(' ');
            seen.append(x.tracedTo(i)).append(' ').append(x.firstCalled(i));
        }
    }

    /** What shows only by more calls: the needs, the defects, and the half after this one. */
    private static void seeHidden(Rotaforge x, StringBuilder seen) {
        for (int s = 0; s < SWITCHES; s++) {
            int control = s;
            seen.append(" needs ").append(x.need(control, (control + 1) % SWITCHES, false));
        }
        seen.append(" defects ").append(Check.outcome(() -> x.defect(0, -1, true)));
        seen.append(" built ").append(Check.outcome(() -> x.build()));
        seen.append(" passed ").append(Check.outcome(() -> x.pass(1)));
        seen.append(" on call ").append(x.onCall()).append(" missed ").append(x.missed());
    }
}

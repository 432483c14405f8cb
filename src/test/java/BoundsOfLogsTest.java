/** A test of its own for each sentence of the promises 24 to 35 that names a bound. */
public final class BoundsOfLogsTest {
    public static void main(String[] args) {
        ofChanges();
        ofHeals();
        ofTraces();
        ofIncidents();
        ofOpenAndClosed();
        ofTracedAndCalled();
        Check.end("BoundsOfLogsTest");
    }

    private static void ofChanges() {
        Check.sentence("Promise 24: Returns how many changes there are", BoundsOfLogsTest::howManyChanges);
        Check.sentence("Promise 25: change: a change; throws IndexOutOfBoundsException if there is no such change",
                () -> changeIndexes("change", (y, n) -> y.change(n)));
        Check.sentence("Promise 25: 10000 times the person, 1000 if it sets the version of a ring, 100 times the "
                + "switch or the ring, and the level or the version", BoundsOfLogsTest::changesTold);
        Check.sentence("Promise 26: change: a change; throws IndexOutOfBoundsException if there is no such change",
                () -> changeIndexes("madeAt", (y, n) -> y.madeAt(n)));
        Check.sentence("Promise 26: Returns the time", BoundsOfLogsTest::changesTimed);
    }

    private static void howManyChanges() {
        Check.due("changes at first", new Rotaforge().changes(), 0);
        Check.due("changes", Check.played(Scenes.changes(1)).changes(), 1);
        Rotaforge x = Check.played(Scenes.changes(200));
        Check.due("changes, all", x.changes(), 200);
        Check.outcome(() -> x.turn(0, 0, 4));
        Check.outcome(() -> x.revert(0, 199));
        Check.due("changes, when more were refused", x.changes(), 200);
    }

    private static void changeIndexes(String what, Check.NumberedCall call) {
        Check.throwsIndex(what + "(0) of none", Scenes::nothing, y -> call.answer(y, 0));
        Check.throwsIndex(what + "(-1) of none", Scenes::nothing, y -> call.answer(y, -1));
        Check.indexes(what + "(n) of one", Scenes.changes(1), 0, 0, call);
        Check.indexes(what + "(n) of four", Scenes::busy, 0, 3, call);
        Check.indexes(what + "(n) of 200", Scenes.changes(200), 0, 199, call);
    }

    private static void changesTold() {
        Rotaforge least = new Rotaforge();
        least.turn(0, 0, 1);
        least.turn(0, 0, 0);
        Check.due("the person 0, the switch 0, the level 0", least.change(1), 0);
        Rotaforge x = Check.played(Scenes.versions(20));
        x.turn(5, 7, 4);
        Check.due("the person 5, the switch 7, the level 4", x.change(0), 50704);
        for (int ring = 0; ring < 4; ring++) {
            x.roll(5, ring, 19);
            Check.due("the person 5, a ring, the version 19", x.change(ring + 1), 51019 + 100 * ring);
            x.pass(2);
        }
        x.revert(0, 4);
        Check.due("the person 0, the ring 3, the version 0", x.change(5), 1300);
        x.roll(0, 0, 0);
        Check.due("the person 0, the ring 0, the version 0", x.change(6), 1000);
        Rotaforge full = Check.played(Scenes.changes(200));
        Check.due("the first of 200", full.change(0), 1);
        Check.due("the last of 200", full.change(199), 10000);
    }

    private static void changesTimed() {
        Rotaforge x = new Rotaforge();
        x.turn(0, 0, 1);
        Scenes.passAll(x, 560);
        x.turn(0, 0, 2);
        x.revert(0, 1);
        Check.due("made at first", x.madeAt(0), 0);
        Check.due("made at the end", x.madeAt(1), 560);
        Check.due("the revert made at the end", x.madeAt(2), 560);
        Rotaforge full = Check.played(Scenes.changes(199).then(y -> y.pass(1)));
        full.turn(0, 1, 1);
        Check.due("the last but one of 200", full.madeAt(198), 0);
        Check.due("the last of 200", full.madeAt(199), 1);
    }

    private static void ofHeals() {
        Check.sentence("Promise 27: change: a change; throws IndexOutOfBoundsException if there is no such change",
                () -> changeIndexes("heals", (y, n) -> y.heals(n, 0)));
        Check.sentence("Promise 27: ring: 0 to 3; throws IndexOutOfBoundsException if there is no such ring", () ->
                Check.indexes("heals(0, n)", Scenes::busy, 0, 3, (y, n) -> y.heals(0, n)));
        Check.sentence("Promise 27: Tells whether a change heals a ring now", BoundsOfLogsTest::healsNow);
        Check.sentence("Promise 27: false if the ring is not faulty", BoundsOfLogsTest::healsNotFaulty);
    }

    private static void healsNow() {
        for (int level = 1; level <= 4; level++) {
            Rotaforge x = new Rotaforge();
            x.turn(0, 7, level);
            x.defect(0, 7, true);
            for (int ring = 0; ring < 4; ring++) {
                Check.due("heals(0, " + ring + ") at the level " + level, x.heals(0, ring), ring < level);
            }
        }
        Rotaforge full = Check.played(Scenes.changes(199));
        full.defect(0, 0, true);
        Check.due("heals(198, 0), the latest of the switch", full.heals(198, 0), true);
        Check.due("heals(197, 0), the one ahead of it", full.heals(197, 0), false);
        full.turn(0, 1, 4);
        full.defect(0, 1, true);
        Check.due("heals(198, 0), by two now", full.heals(198, 0), false);
        Check.due("heals(199, 0), by two now", full.heals(199, 0), false);
        Check.due("heals(199, 1), the last of 200", full.heals(199, 1), true);
        Rotaforge rings = Check.played(Scenes.justAhead(4));
        rings.defect(1, Rotaforge.NONE, true);
        for (int ring = 0; ring < 4; ring++) {
            for (int change = 0; change < 4; change++) {
                Check.due("heals(" + change + ", " + ring + "), a roll", rings.heals(change, ring), change == ring);
            }
        }
    }

    private static void healsNotFaulty() {
        Rotaforge x = new Rotaforge();
        x.turn(0, 0, 4);
        Check.due("without a defect", x.heals(0, 0), false);
        x.defect(0, 0, false);
        Check.due("faulty without the change, but not with it", x.heals(0, 0), false);
        x.defect(0, 1, true);
        Check.due("with a defect that does not show", x.heals(0, 3), false);
    }

    private static void ofTraces() {
        Check.sentence("Promise 28: ring: 0 to 3; throws IndexOutOfBoundsException if there is no such ring", () ->
                Check.indexes("trace(n)", Scenes::busy, 0, 3, (y, n) -> y.trace(n)));
        Check.sentence("Promise 29: ring: 0 to 3; throws IndexOutOfBoundsException if there is no such ring", () ->
                Check.indexes("traceByTrying(n)", Scenes::busy, 0, 3, (y, n) -> y.traceByTrying(n)));
        Check.sentence("Promise 28: found from the latest changes of its version and of each switch",
                () -> traces((y, n) -> y.trace(n)));
        Check.sentence("Promise 29: found by trying all changes, each undone alone",
                () -> traces((y, n) -> y.traceByTrying(n)));
        Check.sentence("Promise 28: NONE if the ring is not faulty", () -> tracesNotFaulty((y, n) -> y.trace(n)));
        Check.sentence("Promise 29: NONE if the ring is not faulty",
                () -> tracesNotFaulty((y, n) -> y.traceByTrying(n)));
        Check.sentence("Promise 28: or no change heals it", () -> tracesUnhealed((y, n) -> y.trace(n)));
        Check.sentence("Promise 29: or no change heals it", () -> tracesUnhealed((y, n) -> y.traceByTrying(n)));
    }

    private static void traces(Check.NumberedCall trace) {
        for (int control = 0; control < 8; control++) {
            Rotaforge x = new Rotaforge();
            x.defect(0, control, true);
            x.turn(0, control, 4);
            Check.due("the first change, of a switch", trace.answer(x, 0), 0);
            Check.due("the first change, in the ring 3", trace.answer(x, 3), 0);
            x.turn(0, control, 1);
            Check.due("on without the latest too", trace.answer(x, 0), Rotaforge.NONE);
        }
        Rotaforge last = Check.played(Scenes.changes(199));
        last.defect(0, 0, true);
        Check.due("the change 198 of 199", trace.answer(last, 0), 198);
        last.turn(5, 7, 4);
        Check.due("the change 198 of 200", trace.answer(last, 0), 198);
        last.defect(0, 7, true);
        Check.due("by two of 200", trace.answer(last, 0), Rotaforge.NONE);
        Check.due("the last of 200", trace.answer(last, 1), 199);
        Rotaforge rings = Check.played(Scenes.justAhead(4));
        rings.defect(1, 0, false);
        for (int ring = 0; ring < 4; ring++) {
            Check.due("the roll of the ring " + ring, trace.answer(rings, ring), ring);
        }
        rings.turn(0, 0, 3);
        rings.turn(0, 0, 1);
        Check.due("the turn, later than the roll of the ring 2", trace.answer(rings, 2), 5);
        Check.due("the roll of the ring 3, off without the turn too", trace.answer(rings, 3), 3);
    }

    private static void tracesNotFaulty(Check.NumberedCall trace) {
        for (int ring = 0; ring < 4; ring++) {
            Check.due("without changes and defects", trace.answer(new Rotaforge(), ring), Rotaforge.NONE);
        }
        Rotaforge x = new Rotaforge();
        x.turn(0, 0, 2);
        Check.due("without a defect", trace.answer(x, 0), Rotaforge.NONE);
        x.defect(0, 0, true);
        Check.due("the last ring that is faulty", trace.answer(x, 1), 0);
        Check.due("the first that is not", trace.answer(x, 2), Rotaforge.NONE);
        Rotaforge mended = new Rotaforge();
        mended.defect(0, 0, false);
        mended.turn(0, 0, 4);
        Check.due("faulty without the change, but not with it", trace.answer(mended, 0), Rotaforge.NONE);
    }

    private static void tracesUnhealed(Check.NumberedCall trace) {
        Rotaforge x = Check.played(Scenes.allFaulty(0));
        Check.due("always faulty, without changes", trace.answer(x, 0), Rotaforge.NONE);
        x.turn(0, 0, 4);
        Check.due("always faulty", trace.answer(x, 3), Rotaforge.NONE);
        Rotaforge off = new Rotaforge();
        off.defect(0, 0, false);
        off.turn(0, 0, 2);
        Check.due("faulty without the change as with it", trace.answer(off, 2), Rotaforge.NONE);
        Rotaforge other = Check.played(Scenes.versions(2).then(Scenes.allFaulty(0)));
        other.roll(0, 0, 1);
        Check.due("the only change is of another ring", trace.answer(other, 1), Rotaforge.NONE);
    }

    private static void ofIncidents() {
        Check.sentence("Promise 30: Returns how many incidents there were", BoundsOfLogsTest::howManyIncidents);
        Check.sentence("Promise 31: ring: 0 to 3; throws IndexOutOfBoundsException if there is no such ring", () ->
                Check.indexes("openIn(n)", Scenes::busy, 0, 3, (y, n) -> y.openIn(n)));
        Check.sentence("Promise 31: Returns the incident", BoundsOfLogsTest::openIncidents);
        Check.sentence("Promise 31: NONE if none is", BoundsOfLogsTest::noOpenIncident);
    }

    private static void howManyIncidents() {
        Check.due("incidents at first", new Rotaforge().incidents(), 0);
        Rotaforge x = new Rotaforge();
        x.defect(0, 0, true);
        x.turn(0, 0, 1);
        Check.due("incidents ahead of the half", x.incidents(), 0);
        x.pass(1);
        Check.due("incidents, one", x.incidents(), 1);
        for (int count = 199; count <= 200; count++) {
            Rotaforge many = Check.played(Scenes.incidents(count));
            Check.due("incidents", many.incidents(), count);
            many.turn(5, 0, 4);
            many.pass(3);
            Check.due("incidents, at most", many.incidents(), 200);
        }
    }

    private static void openIncidents() {
        Rotaforge x = Check.played(Scenes.allFaulty(5));
        for (int ring = 0; ring < 4; ring++) {
            Check.due("openIn(" + ring + ")", x.openIn(ring), ring);
        }
        Rotaforge last = Check.played(Scenes.incidents(196));
        last.turn(5, 0, 4);
        last.pass(2);
        for (int ring = 0; ring < 4; ring++) {
            Check.due("openIn(" + ring + ") of the last four", last.openIn(ring), 196 + ring);
        }
    }

    private static void noOpenIncident() {
        for (int ring = 0; ring < 4; ring++) {
            Check.due("openIn at first", new Rotaforge().openIn(ring), Rotaforge.NONE);
            Check.due("openIn when all are closed", Check.played(Scenes.incidents(4)).openIn(ring), Rotaforge.NONE);
            Check.due("openIn of a faulty ring ahead of the half", Check.played(Scenes.allFaulty(0)).openIn(ring),
                    Rotaforge.NONE);
            Rotaforge full = Check.played(Scenes.incidents(199));
            full.turn(5, 0, 4);
            full.pass(1);
            Check.due("openIn of faulty rings when there are 200", full.openIn(ring), ring == 0 ? 199 : -1);
        }
    }

    private static void incidentIndexes(String what, Check.NumberedCall call) {
        Check.throwsIndex(what + "(0) of none", Scenes::nothing, y -> call.answer(y, 0));
        Check.throwsIndex(what + "(-1) of none", Scenes::nothing, y -> call.answer(y, -1));
        Check.throwsIndex(what + "(0) ahead of the half", Scenes.allFaulty(0), y -> call.answer(y, 0));
        Check.indexes(what + "(n) of two", Scenes::busy, 0, 1, call);
        Check.indexes(what + "(n) of four", Scenes.allFaulty(1), 0, 3, call);
        Check.indexes(what + "(n) of 200", Scenes.incidents(200), 0, 199, call);
    }

    private static void ofOpenAndClosed() {
        Check.sentence("Promise 32: incident: an incident; throws IndexOutOfBoundsException if there is no such "
                + "incident", () -> incidentIndexes("openedAt", (y, n) -> y.openedAt(n)));
        Check.sentence("Promise 32: Returns 10 times the time, and the ring, together",
                BoundsOfLogsTest::incidentsOpened);
        Check.sentence("Promise 33: incident: an incident; throws IndexOutOfBoundsException if there is no such "
                + "incident", () -> incidentIndexes("closedAt", (y, n) -> y.closedAt(n)));
        Check.sentence("Promise 33: Returns the time", BoundsOfLogsTest::incidentsClosed);
        Check.sentence("Promise 33: NONE if it is open", BoundsOfLogsTest::incidentsStillOpen);
    }

    private static void incidentsOpened() {
        Rotaforge first = Check.played(Scenes.allFaulty(1));
        Check.due("the time 1, the ring 0", first.openedAt(0), 10);
        Check.due("the time 1, the ring 3", first.openedAt(3), 13);
        Rotaforge end = Check.played(Scenes.at(559).then(Scenes.allFaulty(1)));
        Check.due("the time 560, the ring 0", end.openedAt(0), 5600);
        Check.due("the time 560, the ring 3", end.openedAt(3), 5603);
        Rotaforge full = Check.played(Scenes.incidents(200));
        Check.due("the first of 200", full.openedAt(0), 20);
        Check.due("the last of 200", full.openedAt(199), 1003);
    }

    private static void incidentsClosed() {
        Rotaforge soon = Check.played(Scenes.incidents(1));
        Check.due("closed a half later", soon.closedAt(0), 3);
        soon.pass(20);
        Check.due("closed then, asked later", soon.closedAt(0), 3);
        Rotaforge end = Check.played(Scenes.at(558));
        end.defect(0, 0, true);
        end.turn(5, 0, 4);
        end.pass(1);
        end.turn(5, 0, 1);
        end.pass(1);
        Check.due("closed in the half 560", end.closedAt(1), 560);
        Check.due("closed in the half 560", end.closedAt(3), 560);
        Check.due("open in the half 560", end.closedAt(0), Rotaforge.NONE);
        Rotaforge full = Check.played(Scenes.incidents(200));
        Check.due("the first of 200", full.closedAt(0), 3);
        Check.due("the last of 200", full.closedAt(199), 101);
    }

    private static void incidentsStillOpen() {
        Rotaforge x = Check.played(Scenes.allFaulty(1));
        for (int incident = 0; incident < 4; incident++) {
            Check.due("when it opened", x.closedAt(incident), Rotaforge.NONE);
        }
        Scenes.passAll(x, 559);
        Check.due("open to the end", x.closedAt(3), Rotaforge.NONE);
        Rotaforge mended = new Rotaforge();
        mended.defect(0, 0, true);
        mended.turn(5, 0, 1);
        mended.pass(1);
        mended.turn(5, 0, 0);
        Check.due("mended, ahead of the half", mended.closedAt(0), Rotaforge.NONE);
        mended.pass(1);
        Check.due("mended, behind the half", mended.closedAt(0), 2);
    }

    private static void ofTracedAndCalled() {
        Check.sentence("Promise 34: incident: an incident; throws IndexOutOfBoundsException if there is no such "
                + "incident", () -> incidentIndexes("tracedTo", (y, n) -> y.tracedTo(n)));
        Check.sentence("Promise 34: Returns the change to which an incident was traced when it opened",
                BoundsOfLogsTest::tracedWhenItOpened);
        Check.sentence("Promise 34: NONE if none healed the ring", BoundsOfLogsTest::tracedToNone);
        Check.sentence("Promise 35: incident: an incident; throws IndexOutOfBoundsException if there is no such "
                + "incident", () -> incidentIndexes("firstCalled", (y, n) -> y.firstCalled(n)));
        Check.sentence("Promise 35: Returns the person", BoundsOfLogsTest::calledWhenItOpened);
        Check.sentence("Promise 35: NONE if the call was missed", BoundsOfLogsTest::callMissed);
    }

    private static void tracedWhenItOpened() {
        Rotaforge first = Check.played(Scenes.incidents(1));
        Check.due("to the first change", first.tracedTo(0), 0);
        Rotaforge last = Check.played(Scenes.changes(199));
        last.pass(1);
        last.defect(0, 7, true);
        last.turn(5, 7, 4);
        last.pass(1);
        Check.due("to the last of 200 changes", last.tracedTo(0), 199);
        Check.due("to the last of 200 changes", last.tracedTo(3), 199);
        Rotaforge later = Check.played(Scenes::busy);
        int traced = later.tracedTo(1);
        Check.due("to the latest turn", traced, 3);
        later.turn(1, 0, 4);
        later.defect(1, Rotaforge.NONE, true);
        later.pass(3);
        Check.due("trace now", later.trace(0), 0);
        Check.due("as it was when it opened", later.tracedTo(1), traced);
        Check.due("the one that is closed", later.tracedTo(0), 1);
        Rotaforge full = Check.played(Scenes.incidents(200));
        Check.due("the last of 200 incidents", full.tracedTo(199), 98);
    }

    private static void tracedToNone() {
        Rotaforge none = Check.played(Scenes.allFaulty(1));
        Check.due("without changes", none.tracedTo(0), Rotaforge.NONE);
        Check.due("without changes, the ring 3", none.tracedTo(3), Rotaforge.NONE);
        Rotaforge later = Check.played(Scenes.allFaulty(1));
        later.turn(5, 0, 4);
        later.pass(1);
        Check.due("with a change behind it", later.tracedTo(0), Rotaforge.NONE);
        Rotaforge two = new Rotaforge();
        two.defect(0, 0, true);
        two.defect(0, 1, true);
        two.turn(5, 0, 4);
        two.turn(4, 1, 1);
        two.pass(1);
        Check.due("by two changes", two.tracedTo(0), Rotaforge.NONE);
        Check.due("by one change", two.tracedTo(1), 0);
        Check.due("blots(4), of none", two.blots(4), 0);
    }

    private static void calledWhenItOpened() {
        Rotaforge x = new Rotaforge();
        x.defect(0, 0, false);
        x.turn(5, 0, 4);
        x.pass(1);
        int[] due = {0, 0, 5, 5};
        for (int incident = 0; incident < 4; incident++) {
            x.turn(5, 0, 3 - incident);
            x.pass(1);
            Check.due("opened in the half " + x.time(), x.firstCalled(incident), due[incident]);
        }
        Rotaforge first = Check.played(Scenes.allFaulty(1));
        Check.due("the holder", first.firstCalled(0), 0);
        Check.due("the holder, the ring 3", first.firstCalled(3), 0);
        first.pass(5);
        Check.due("as it was when it opened", first.firstCalled(3), 0);
        Rotaforge other = Check.played(Scenes.onlyPersonZeroRests(13));
        other.defect(0, Rotaforge.NONE, true);
        other.pass(1);
        Check.due("the holder of the week that begins", other.firstCalled(1), 1);
        Rotaforge resting = Check.played(Scenes.onlyPersonZeroRests(12));
        resting.defect(0, Rotaforge.NONE, true);
        resting.pass(1);
        Check.due("another, while the holder rests", resting.firstCalled(1), 3);
        Rotaforge full = Check.played(Scenes.incidents(200));
        Check.due("the last of 200 incidents", full.firstCalled(199), full.holder(7));
    }

    private static void callMissed() {
        int[] due = {5, Rotaforge.NONE, Rotaforge.NONE, 0};
        for (int half = 11; half <= 14; half++) {
            Rotaforge x = new Rotaforge();
            x.defect(0, 0, false);
            x.turn(5, 0, 3);
            x.pass(half - 1);
            x.defect(0, 0, true);
            x.pass(1);
            Check.due("firstCalled(1), opened in the half " + half, x.firstCalled(1), due[half - 11]);
            Check.due("firstCalled(3), opened in it too", x.firstCalled(3), due[half - 11]);
            x.pass(2);
            Check.due("firstCalled(1), two halves later", x.firstCalled(1), due[half - 11]);
            Check.due("firstCalled(0), not missed", x.firstCalled(0), 0);
        }
    }
}

/** Promises 5 to 7 and 24 to 26: turn, roll, revert, changes, change, madeAt. */
public final class ChangesTest {
    public static void main(String[] args) {
        turnSetsLevels();
        turnIsRefused();
        rollSetsVersions();
        rollWaitsForTheRingAhead();
        rollWaitsForIncidents();
        rollIsRefused();
        revertSetsBack();
        revertIsRefused();
        revertIsNotHeldBack();
        twoHundredChanges();
        changesAreTold();
        changesAreTimed();
        Check.end("ChangesTest");
    }

    private static void turnSetsLevels() {
        Rotaforge x = new Rotaforge();
        Check.due("turn(0, 0, 4)", x.turn(0, 0, 4), 0);
        Check.due("turn(5, 7, 1)", x.turn(5, 7, 1), 1);
        Check.due("turn(5, 0, 0)", x.turn(5, 0, 0), 2);
        Check.due("level(0)", x.level(0), 0);
        Check.due("level(7)", x.level(7), 1);
        Check.due("level(6)", x.level(6), 0);
    }

    private static void turnIsRefused() {
        Check.Scenario start = y -> y.turn(0, 3, 2);
        Check.throwsIndex("turn(6, 0, 1)", start, y -> y.turn(6, 0, 1));
        Check.throwsIndex("turn(-1, 0, 1)", start, y -> y.turn(-1, 0, 1));
        Check.throwsIndex("turn(0, 8, 1)", start, y -> y.turn(0, 8, 1));
        Check.throwsIndex("turn(0, -1, 1)", start, y -> y.turn(0, -1, 1));
        Check.throwsIndex("turn(6, 0, 5), no level either", start, y -> y.turn(6, 0, 5));
        Check.throwsIndex("turn(0, 8, 5), no level either", start, y -> y.turn(0, 8, 5));
        Check.throwsArgument("turn(0, 3, 5)", start, y -> y.turn(0, 3, 5));
        Check.throwsArgument("turn(0, 3, -1)", start, y -> y.turn(0, 3, -1));
        Check.throwsArgument("turn(0, 3, MIN)", start, y -> y.turn(0, 3, Integer.MIN_VALUE));
        Check.throwsState("turn(1, 3, 2), its level", start, y -> y.turn(1, 3, 2));
        Check.throwsState("turn(1, 4, 0), its level at first", start, y -> y.turn(1, 4, 0));
        Check.Scenario resting = Scenes::personZeroRests;
        Check.throwsState("turn by one who rests", resting, y -> y.turn(0, 3, 2));
        Check.throwsArgument("turn by one who rests, no level", resting, y -> y.turn(0, 3, 5));
        Check.throwsIndex("turn by one who rests, no switch", resting, y -> y.turn(0, 8, 2));
        Rotaforge x = Check.played(resting);
        Check.due("turn by another", x.turn(1, 3, 2), 1);
    }

    private static void rollSetsVersions() {
        Rotaforge x = new Rotaforge();
        x.build();
        x.build();
        Check.due("roll(0, 0, 2)", x.roll(0, 0, 2), 0);
        Check.due("roll(5, 0, 1), a lower one", x.roll(5, 0, 1), 1);
        Check.due("version(0)", x.version(0), 1);
        Check.due("version(1)", x.version(1), 0);
        x.pass(2);
        Check.due("roll(5, 1, 1)", x.roll(5, 1, 1), 2);
        x.pass(2);
        Check.due("roll(5, 2, 1)", x.roll(5, 2, 1), 3);
        x.pass(2);
        Check.due("roll(5, 3, 1)", x.roll(5, 3, 1), 4);
        Check.due("version(3)", x.version(3), 1);
    }

    private static void rollWaitsForTheRingAhead() {
        Check.Scenario justRolled = y -> {
            y.build();
            y.build();
            y.roll(1, 0, 1);
        };
        Check.throwsState("roll in the same half", justRolled, y -> y.roll(1, 1, 1));
        Check.throwsState("roll of what the ring ahead does not run", justRolled, y -> y.roll(1, 1, 2));
        Check.Scenario oneLater = y -> {
            justRolled.play(y);
            y.pass(1);
        };
        Check.throwsState("roll one half later", oneLater, y -> y.roll(1, 1, 1));
        Check.Scenario twoLater = y -> {
            oneLater.play(y);
            y.pass(1);
        };
        Check.due("roll two halves later", Check.played(twoLater).roll(1, 1, 1), 1);
        Check.throwsState("roll two halves later of another", twoLater, y -> y.roll(1, 1, 2));
        Check.throwsState("roll two rings on", twoLater, y -> y.roll(1, 2, 1));
        Rotaforge longAfter = Check.played(twoLater);
        longAfter.pass(28);
        Check.due("roll long after", longAfter.roll(1, 1, 1), 1);
        Check.Scenario awayAndBack = y -> {
            twoLater.play(y);
            y.roll(1, 0, 2);
            y.revert(1, 1);
        };
        Check.throwsState("roll of what runs anew", awayAndBack, y -> y.roll(1, 1, 1));
        Rotaforge x = Check.played(awayAndBack);
        x.pass(2);
        Check.due("roll two halves after it runs anew", x.roll(1, 1, 1), 3);
    }

    private static void rollWaitsForIncidents() {
        Check.Scenario ringOneRuns = y -> {
            y.build();
            y.roll(1, 0, 1);
            y.pass(2);
            y.roll(1, 1, 1);
            y.pass(2);
        };
        Check.due("roll without incidents", Check.played(ringOneRuns).roll(5, 2, 1), 2);
        Check.Scenario openInZero = y -> {
            ringOneRuns.play(y);
            y.turn(5, 0, 1);
            y.defect(1, 0, true);
            y.pass(1);
        };
        Check.throwsState("roll with an incident two rings lower", openInZero, y -> y.roll(5, 2, 1));
        Rotaforge lowest = Check.played(openInZero);
        Check.due("roll to the ring of the incident", lowest.roll(5, 0, 0), 3);
        Check.due("ring 2 still is held back, the incident is open", lowest.rollable(2), -1);
        lowest.pass(1);
        Check.due("ring 2 is held back no more", lowest.rollable(2), 1);
        Check.Scenario openAtAndAbove = y -> {
            ringOneRuns.play(y);
            y.defect(0, -1, true);
            y.pass(1);
        };
        Rotaforge above = Check.played(openAtAndAbove);
        Check.due("an incident is open in ring 2", above.openIn(2), 0);
        Check.due("roll with incidents in this ring and a higher one", above.roll(5, 2, 1), 2);
        Rotaforge faultyOnly = Check.played(ringOneRuns);
        faultyOnly.defect(1, -1, true);
        Check.due("roll while lower rings are faulty without incidents", faultyOnly.roll(5, 2, 1), 2);
    }

    private static void rollIsRefused() {
        Check.Scenario start = y -> {
            y.build();
            y.roll(0, 0, 1);
        };
        Check.throwsIndex("roll(6, 0, 0)", start, y -> y.roll(6, 0, 0));
        Check.throwsIndex("roll(-1, 0, 0)", start, y -> y.roll(-1, 0, 0));
        Check.throwsIndex("roll(0, 4, 0)", start, y -> y.roll(0, 4, 0));
        Check.throwsIndex("roll(0, -1, 0)", start, y -> y.roll(0, -1, 0));
        Check.throwsIndex("roll(0, 0, 2)", start, y -> y.roll(0, 0, 2));
        Check.throwsIndex("roll(0, 0, -1)", start, y -> y.roll(0, 0, -1));
        Check.throwsState("roll of what it runs", start, y -> y.roll(0, 0, 1));
        Check.throwsState("roll of what it runs at first", start, y -> y.roll(0, 3, 0));
        Check.Scenario resting = Scenes::personZeroRests;
        Check.throwsState("roll by one who rests", resting, y -> y.roll(0, 0, 1));
        Check.throwsIndex("roll by one who rests, no version", resting, y -> y.roll(0, 0, 2));
        Check.due("roll by another", Check.played(resting).roll(2, 0, 1), 1);
    }

    private static void revertSetsBack() {
        Rotaforge x = new Rotaforge();
        x.turn(0, 3, 2);
        x.turn(0, 3, 4);
        x.turn(0, 2, 1);
        Check.due("revert of the latest of 3", x.revert(5, 1), 3);
        Check.due("level(3)", x.level(3), 2);
        Check.due("change(3)", x.change(3), 50302);
        Check.due("revert of the revert", x.revert(4, 3), 4);
        Check.due("level(3)", x.level(3), 4);
        Check.due("revert of the first of its switch", x.revert(4, 2), 5);
        Check.due("level(2), as at first", x.level(2), 0);
        Check.due("level(3) stays", x.level(3), 4);
        x.build();
        x.build();
        x.roll(1, 0, 1);
        x.roll(1, 0, 2);
        Check.due("revert of a version", x.revert(2, 7), 8);
        Check.due("version(0)", x.version(0), 1);
        Check.due("change(8)", x.change(8), 21001);
        Rotaforge y = new Rotaforge();
        y.build();
        y.roll(1, 0, 1);
        Check.due("revert of the first of its ring", y.revert(3, 0), 1);
        Check.due("version(0), as at first", y.version(0), 0);
        Check.due("change(1)", y.change(1), 31000);
    }

    private static void revertIsRefused() {
        Check.Scenario start = y -> {
            y.build();
            y.turn(0, 0, 2);
            y.roll(0, 0, 1);
            y.turn(0, 1, 4);
            y.turn(0, 0, 3);
        };
        Check.throwsIndex("revert(6, 3)", start, y -> y.revert(6, 3));
        Check.throwsIndex("revert(-1, 3)", start, y -> y.revert(-1, 3));
        Check.throwsIndex("revert(0, 4)", start, y -> y.revert(0, 4));
        Check.throwsIndex("revert(0, -1)", start, y -> y.revert(0, -1));
        Check.throwsIndex("revert(0, 0) without changes", Scenes::nothing, y -> y.revert(0, 0));
        Check.throwsState("revert with a later change of the switch", start, y -> y.revert(1, 0));
        Rotaforge x = Check.played(start);
        Check.due("revert of the ring with the number of that switch", x.revert(1, 1), 4);
        Check.throwsState("revert of a ring with a later change", y -> {
            start.play(y);
            y.revert(1, 1);
        }, y -> y.revert(1, 1));
        Check.Scenario resting = Scenes::personZeroRests;
        Check.throwsState("revert by one who rests", resting, y -> y.revert(0, 0));
        Check.throwsIndex("revert by one who rests, no change", resting, y -> y.revert(0, 1));
        Check.due("revert by another", Check.played(resting).revert(3, 0), 1);
    }

    private static void revertIsNotHeldBack() {
        Rotaforge x = new Rotaforge();
        x.build();
        x.roll(1, 0, 1);
        x.pass(2);
        x.roll(1, 1, 1);
        x.roll(1, 0, 0);
        x.defect(0, -1, true);
        x.pass(1);
        Check.due("an incident is open in ring 0", x.openIn(0), 0);
        Check.due("revert in ring 1 of what ring 0 does not run, under an incident", x.revert(4, 1), 3);
        Check.due("version(1)", x.version(1), 0);
        Check.due("revert back to what ring 0 does not run", x.revert(4, 3), 4);
        Check.due("version(1)", x.version(1), 1);
    }

    private static void twoHundredChanges() {
        Check.Scenario full = Scenes::twoHundredChanges;
        Check.throwsState("turn with 200", full, y -> y.turn(0, 1, 1));
        Check.throwsState("roll with 200", full, y -> y.roll(0, 0, 1));
        Check.throwsState("revert with 200", full, y -> y.revert(0, 199));
        Check.throwsArgument("turn with 200, no level", full, y -> y.turn(0, 1, 5));
        Check.throwsIndex("revert(0, 200) with 200", full, y -> y.revert(0, 200));
        Rotaforge x = Check.played(full);
        Check.due("changes", x.changes(), 200);
        Check.due("rollable(0) with 200", x.rollable(0), 1);
        Rotaforge almost = new Rotaforge();
        for (int i = 0; i < 199; i++) {
            almost.turn(0, 0, 1 + i % 2);
        }
        Check.due("revert with 199", almost.revert(0, 198), 199);
        Check.due("changes", almost.changes(), 200);
    }

    private static void changesAreTold() {
        Rotaforge x = new Rotaforge();
        for (int v = 1; v < 20; v++) {
            x.build();
        }
        x.turn(0, 0, 1);
        x.turn(5, 7, 4);
        x.roll(3, 0, 19);
        x.pass(2);
        x.roll(5, 1, 19);
        Check.due("changes", x.changes(), 4);
        Check.due("change(0)", x.change(0), 1);
        Check.due("change(1)", x.change(1), 50704);
        Check.due("change(2)", x.change(2), 31019);
        Check.due("change(3)", x.change(3), 51119);
        Check.Scenario one = y -> y.turn(0, 0, 1);
        Check.throwsIndex("change(1)", one, y -> y.change(1));
        Check.throwsIndex("change(-1)", one, y -> y.change(-1));
        Check.throwsIndex("change(0) of none", Scenes::nothing, y -> y.change(0));
        Check.throwsIndex("change(MAX)", one, y -> y.change(Integer.MAX_VALUE));
    }

    private static void changesAreTimed() {
        Rotaforge x = new Rotaforge();
        x.turn(0, 0, 1);
        x.pass(28);
        x.turn(0, 0, 2);
        x.pass(3);
        x.revert(1, 1);
        Check.due("madeAt(0)", x.madeAt(0), 0);
        Check.due("madeAt(1)", x.madeAt(1), 28);
        Check.due("madeAt(2)", x.madeAt(2), 31);
        Check.Scenario one = y -> y.turn(0, 0, 1);
        Check.throwsIndex("madeAt(1)", one, y -> y.madeAt(1));
        Check.throwsIndex("madeAt(-1)", one, y -> y.madeAt(-1));
        Rotaforge last = new Rotaforge();
        Scenes.passAll(last, 560);
        last.turn(0, 0, 1);
        Check.due("madeAt(0) at the end", last.madeAt(0), 560);
    }
}

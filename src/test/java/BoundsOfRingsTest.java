/** A test of its own for each sentence of the promises 18 to 23 that names a bound. */
public final class BoundsOfRingsTest {
    public static void main(String[] args) {
        ofVersions();
        ofSwitches();
        ofFaults();
        ofRollable();
        Check.end("BoundsOfRingsTest");
    }

    private static void ofVersions() {
        Check.sentence("Promise 18: Returns how many versions there are", BoundsOfRingsTest::howManyVersions);
        Check.sentence("Promise 19: ring: 0 to 3; throws IndexOutOfBoundsException if there is no such ring", () ->
                Check.indexes("version(n)", Scenes::stairs, 0, 3, (y, n) -> y.version(n)));
        Check.sentence("Promise 19: Returns the version", BoundsOfRingsTest::versionsOfRings);
    }

    private static void howManyVersions() {
        for (int count = 1; count <= 20; count++) {
            Check.due("versions", Check.played(Scenes.versions(count)).versions(), count);
        }
    }

    private static void versionsOfRings() {
        Rotaforge x = Check.played(Scenes::stairs);
        for (int ring = 0; ring < 4; ring++) {
            Check.due("version(" + ring + ") at first", new Rotaforge().version(ring), 0);
            Check.due("version(" + ring + ") in stairs", x.version(ring), 3 - ring);
        }
        Rotaforge last = Check.played(Scenes.versions(20));
        last.roll(0, 0, 19);
        Check.due("version(0), the last", last.version(0), 19);
    }

    private static void ofSwitches() {
        Check.sentence("Promise 20: control: a switch; throws IndexOutOfBoundsException if there is no such switch",
                () -> Check.indexes("level(n)", Scenes::busy, 0, 7, (y, n) -> y.level(n)));
        Check.sentence("Promise 20: Returns 0 to 4", BoundsOfRingsTest::levelsOfSwitches);
        Check.sentence("Promise 21: control: a switch; throws IndexOutOfBoundsException if there is no such switch",
                () -> Check.indexes("isOn(n, 0)", Scenes::busy, 0, 7, (y, n) -> y.isOn(n, 0)));
        Check.sentence("Promise 21: ring: 0 to 3; throws IndexOutOfBoundsException if there is no such ring",
                () -> Check.indexes("isOn(0, n)", Scenes::busy, 0, 3, (y, n) -> y.isOn(0, n)));
        Check.sentence("Promise 21: Returns whether it is", BoundsOfRingsTest::switchesOn);
    }

    private static void levelsOfSwitches() {
        for (int control = 0; control < 8; control++) {
            Rotaforge x = new Rotaforge();
            Check.due("level at first", x.level(control), 0);
            for (int level : new int[] {4, 0, 1, 3, 2}) {
                x.turn(0, control, level);
                Check.due("level, turned", x.level(control), level);
                Check.due("level of the next one", x.level((control + 1) % 8), 0);
            }
        }
    }

    private static void switchesOn() {
        for (int control = 0; control < 8; control++) {
            for (int level = 0; level <= 4; level++) {
                Rotaforge x = new Rotaforge();
                if (level > 0) {
                    x.turn(0, control, level);
                }
                for (int ring = 0; ring < 4; ring++) {
                    Check.due("isOn in the ring " + ring + " at the level " + level, x.isOn(control, ring),
                            ring < level);
                    Check.due("isOn of the next one", x.isOn((control + 1) % 8, ring), false);
                }
            }
        }
    }

    private static void ofFaults() {
        Check.sentence("Promise 22: ring: 0 to 3; throws IndexOutOfBoundsException if there is no such ring", () ->
                Check.indexes("isFaulty(n)", Scenes::busy, 0, 3, (y, n) -> y.isFaulty(n)));
        Check.sentence("Promise 22: Tells whether a ring is faulty now", BoundsOfRingsTest::faultyNow);
    }

    private static void faultyNow() {
        Rotaforge x = Check.played(Scenes::stairs);
        for (int ring = 0; ring < 4; ring++) {
            Check.due("isFaulty without a defect", x.isFaulty(ring), false);
            x.defect(3 - ring, Rotaforge.NONE, true);
            Check.due("isFaulty at once, ahead of an incident", x.isFaulty(ring), true);
            Check.due("openIn", x.openIn(ring), Rotaforge.NONE);
            if (ring < 3) {
                Check.due("isFaulty of the next ring", x.isFaulty(ring + 1), false);
            }
        }
        x.roll(0, 0, 4);
        Check.due("isFaulty of another version", x.isFaulty(0), false);
    }

    private static void ofRollable() {
        Check.sentence("Promise 23: ring: 0 to 3; throws IndexOutOfBoundsException if there is no such ring", () ->
                Check.indexes("rollable(n)", Scenes::stairs, 0, 3, (y, n) -> y.rollable(n)));
        Check.sentence("Promise 23: of a ring that is not ring 0 that of the ring ahead of it",
                BoundsOfRingsTest::rollableFromTheRingAhead);
        Check.sentence("Promise 23: of ring 0 the greatest version", BoundsOfRingsTest::rollableOfRing0);
        Check.sentence("Promise 23: NONE if the ring runs it", BoundsOfRingsTest::noneIfItRunsIt);
        Check.sentence("Promise 23: or is held back (the ring ahead)", BoundsOfRingsTest::noneIfTooEarly);
        Check.sentence("Promise 23: or is held back (an incident)", BoundsOfRingsTest::noneUnderAnIncident);
        Check.sentence("Promise 23: by a person who does not rest", BoundsOfRingsTest::whoeverRests);
        Check.sentence("Promise 23: if there are fewer than 200 changes", BoundsOfRingsTest::howeverManyChanges);
    }

    private static void rollableFromTheRingAhead() {
        Rotaforge x = Check.played(Scenes::stairs);
        for (int ring = 3; ring >= 0; ring--) {
            Check.due("rollable(" + ring + ")", x.rollable(ring), 4 - ring);
        }
        for (int ring = 3; ring >= 0; ring--) {
            x.roll(0, ring, x.rollable(ring));
            Check.due("version(" + ring + "), rolled", x.version(ring), 4 - ring);
        }
        Rotaforge first = Check.played(Scenes.justAhead(1).then(y -> y.pass(20)).then(y -> y.roll(0, 1, 1))
                .then(y -> y.roll(0, 0, 0)).then(y -> y.pass(2)));
        Check.due("rollable(1), back to the version at first", first.rollable(1), 0);
    }

    private static void rollableOfRing0() {
        for (int count = 2; count <= 20; count++) {
            Rotaforge x = Check.played(Scenes.versions(count));
            Check.due("rollable(0) of " + count, x.rollable(0), count - 1);
        }
        Rotaforge x = Check.played(Scenes.justAhead(1).then(Scenes.allFaulty(0)).then(y -> y.defect(1, -1, true))
                .then(y -> y.pass(2)));
        Check.due("rollable(0) with incidents in all rings", x.rollable(0), 2);
    }

    private static void noneIfItRunsIt() {
        for (int ring = 0; ring < 4; ring++) {
            Check.due("rollable at first", new Rotaforge().rollable(ring), Rotaforge.NONE);
            Check.due("rollable at 560", Check.played(Scenes.at(560)).rollable(ring), Rotaforge.NONE);
        }
        Rotaforge x = Check.played(Scenes.versions(20));
        x.roll(0, 0, 18);
        Check.due("rollable(0) when it runs the last but one", x.rollable(0), 19);
        x.roll(0, 0, 19);
        Check.due("rollable(0) when it runs the last", x.rollable(0), Rotaforge.NONE);
        for (int ring = 1; ring < 4; ring++) {
            Rotaforge both = Check.played(Scenes.justAhead(ring + 1).then(y -> y.pass(2)));
            Check.due("rollable when it runs what the ring ahead runs", both.rollable(ring), Rotaforge.NONE);
        }
    }

    private static void noneIfTooEarly() {
        for (int ring = 1; ring < 4; ring++) {
            Rotaforge x = Check.played(Scenes.justAhead(ring));
            Check.due("rollable in the same half", x.rollable(ring), Rotaforge.NONE);
            x.pass(1);
            Check.due("rollable one half later", x.rollable(ring), Rotaforge.NONE);
            x.pass(1);
            Check.due("rollable two halves later", x.rollable(ring), 1);
            x.pass(1);
            Check.due("rollable three halves later", x.rollable(ring), 1);
        }
    }

    /** Just the ring ahead of this one is faulty, by a switch that is set in those below it alone. */
    private static Rotaforge openJustBelow(int ring) {
        Rotaforge x = new Rotaforge();
        if (ring > 1) {
            x.turn(0, 0, ring - 1);
        }
        Scenes.justAhead(ring).play(x);
        x.pass(2);
        x.defect(1, 0, false);
        x.pass(1);
        return x;
    }

    private static void noneUnderAnIncident() {
        for (int ring = 1; ring < 4; ring++) {
            Rotaforge x = openJustBelow(ring);
            Check.due("openIn just below", x.openIn(ring - 1), 0);
            Check.due("rollable with an incident just below", x.rollable(ring), Rotaforge.NONE);
            x.turn(1, 0, 4);
            Check.due("rollable when it is mended, and open", x.rollable(ring), Rotaforge.NONE);
            x.pass(1);
            Check.due("rollable when it is closed", x.rollable(ring), 1);
            x.defect(0, Rotaforge.NONE, true);
            x.pass(1);
            Check.due("openIn the ring itself", x.openIn(ring), 1);
            Check.due("rollable with incidents in the ring itself and above", x.rollable(ring), 1);
            x.turn(2, 0, 0);
            Check.due("rollable when rings below are faulty, without an incident", x.rollable(ring), 1);
            x.turn(2, 0, 1);
            x.defect(1, 0, true);
            x.pass(1);
            Check.due("openIn(0)", x.openIn(0) != -1, true);
            Check.due("rollable with an incident in ring 0", x.rollable(ring), Rotaforge.NONE);
        }
    }

    private static void whoeverRests() {
        Rotaforge x = Check.played(Scenes.versions(2).then(Scenes.allFaulty(12)));
        Check.due("onCall, all rest", x.onCall(), Rotaforge.NONE);
        Check.due("rollable(0) when all rest", x.rollable(0), 1);
        Check.due("roll when all rest", Check.outcome(() -> x.roll(0, 0, 1)), "throws.IllegalStateException");
    }

    private static void howeverManyChanges() {
        Rotaforge almost = Check.played(Scenes.versions(2).then(Scenes.changes(199)));
        Check.due("rollable(0) with 199", almost.rollable(0), 1);
        almost.turn(0, 0, 0);
        Check.due("rollable(0) with 200, as if there were fewer", almost.rollable(0), 1);
        Check.due("rollable(1) with 200, which runs that of the ring ahead", almost.rollable(1), Rotaforge.NONE);
    }
}

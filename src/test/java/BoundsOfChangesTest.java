/** A test of its own for each sentence of the promises 5 to 7 that names a bound. */
public final class BoundsOfChangesTest {
    public static void main(String[] args) {
        ofTurn();
        ofRoll();
        ofHeldBack();
        ofRevert();
        Check.end("BoundsOfChangesTest");
    }

    private static void ofTurn() {
        Check.sentence("Promise 5: person: 0 to 5; throws IndexOutOfBoundsException if there is no such person", () ->
                Check.indexes("turn(n, 3, 3)", Scenes::busy, 0, 5, (y, n) -> y.turn(n, 3, 3)));
        Check.sentence("Promise 5: control: a switch; throws IndexOutOfBoundsException if there is no such switch",
                () -> Check.indexes("turn(2, n, 3)", Scenes::busy, 0, 7, (y, n) -> y.turn(2, n, 3)));
        Check.sentence("Promise 5: level: 0 to 4", BoundsOfChangesTest::levelsOfTurn);
        Check.sentence("Promise 5: Returns the number of the change", () -> countsUp((y, n) -> y.turn(0, 1, n % 5)));
        Check.sentence("Promise 5: Throws IllegalArgumentException if level is out of range",
                BoundsOfChangesTest::turnOutOfRange);
        Check.sentence("Promise 5: Throws IllegalStateException if the person rests in this half",
                () -> refusedInRest(y -> y.turn(0, 1, 4), y -> y.turn(1, 1, 4)));
        Check.sentence("Promise 5: Throws IllegalStateException if the switch has this level",
                BoundsOfChangesTest::turnToItsLevel);
        Check.sentence("Promise 5: Throws IllegalStateException if there are 200 changes",
                () -> refusedWith200(y -> y.turn(0, 1, 4)));
        Check.sentence("Promise 5: the first line of the throws clause decides", BoundsOfChangesTest::turnsFirstLine);
    }

    /** The 200 changes have the numbers 0 to 199 in their order; the call changes by itself. */
    private static void countsUp(Check.NumberedCall call) {
        Rotaforge x = Check.played(Scenes.versions(2));
        for (int number = 1; number <= 200; number++) {
            Check.due("the number of a change", call.answer(x, number), number - 1);
            Check.due("changes", x.changes(), number);
        }
    }

    /** The person 0 was called in the half 1, and rests from 2 to 13. */
    private static void refusedInRest(Check.WrongCall call, Check.WrongCall byAnother) {
        Check.allows("in the half of the call", Scenes.onlyPersonZeroRests(1), call);
        Check.throwsState("in the first half of the rest", Scenes.onlyPersonZeroRests(2), call);
        Check.throwsState("in the last half of the rest", Scenes.onlyPersonZeroRests(13), call);
        Check.allows("in the half behind the rest", Scenes.onlyPersonZeroRests(14), call);
        Check.allows("by another in the first half of the rest", Scenes.onlyPersonZeroRests(2), byAnother);
        Check.allows("by another in the last half of the rest", Scenes.onlyPersonZeroRests(13), byAnother);
    }

    private static void refusedWith200(Check.WrongCall call) {
        Check.allows("with 199 changes", Scenes.versions(2).then(Scenes.changes(199)), call);
        Check.throwsState("with 200 changes", Scenes.versions(2).then(Scenes.changes(200)), call);
    }

    private static void levelsOfTurn() {
        for (int level = 0; level <= 4; level++) {
            for (int control = 0; control < 8; control += 7) {
                Rotaforge x = new Rotaforge();
                x.turn(0, control, level == 4 ? 3 : level + 1);
                x.turn(0, control, level);
                Check.due("level, turned to " + level, x.level(control), level);
            }
        }
    }

    private static void turnOutOfRange() {
        for (int level : Check.outside(0, 4)) {
            Check.throwsArgument("turn(2, 3, " + level + ")", Scenes::busy, y -> y.turn(2, 3, level));
        }
        Check.allows("turn(2, 0, 0)", Scenes::busy, y -> y.turn(2, 0, 0));
        Check.allows("turn(2, 0, 4)", Scenes::busy, y -> y.turn(2, 0, 4));
    }

    private static void turnToItsLevel() {
        Check.throwsState("turn to the level at first", Scenes::nothing, y -> y.turn(0, 7, 0));
        for (int level = 1; level <= 4; level++) {
            int same = level;
            Check.Scenario turned = y -> y.turn(0, 7, same);
            Check.throwsState("turn to its level", turned, y -> y.turn(1, 7, same));
            Check.allows("turn to the level below", turned, y -> y.turn(1, 7, same - 1));
            Check.allows("turn of another to that level", turned, y -> y.turn(1, 6, same));
        }
        Check.throwsState("turn to the level that a revert set", Scenes.changes(1).then(y -> y.revert(1, 0)),
                y -> y.turn(0, 0, 0));
    }

    private static void turnsFirstLine() {
        Check.throwsIndex("no such person, level out of range", Scenes::busy, y -> y.turn(6, 0, 5));
        Check.throwsIndex("no such person, level out of range", Scenes::busy, y -> y.turn(-1, 0, -1));
        Check.throwsIndex("no such switch, level out of range", Scenes::busy, y -> y.turn(0, 8, 5));
        Check.throwsIndex("no such switch, level out of range", Scenes::busy, y -> y.turn(0, -1, -1));
        Check.throwsIndex("no such person, its level", Scenes::busy, y -> y.turn(6, 0, 2));
        Check.Scenario resting = Scenes.onlyPersonZeroRests(2);
        Check.throwsIndex("no such switch, the person rests", resting, y -> y.turn(0, 8, 1));
        Check.throwsArgument("level out of range, the person rests", resting, y -> y.turn(0, 0, 5));
        Check.throwsArgument("level out of range, the person rests", resting, y -> y.turn(0, 0, -1));
        Check.Scenario full = Scenes::twoHundredChanges;
        Check.throwsIndex("no such person, 200 changes", full, y -> y.turn(6, 1, 1));
        Check.throwsIndex("no such switch, 200 changes", full, y -> y.turn(0, 8, 1));
        Check.throwsArgument("level out of range, 200 changes", full, y -> y.turn(0, 1, 5));
        Check.throwsArgument("level out of range, 200 changes", full, y -> y.turn(0, 1, -1));
    }

    private static void ofRoll() {
        Check.sentence("Promise 6: person: 0 to 5; throws IndexOutOfBoundsException if there is no such person", () ->
                Check.indexes("roll(n, 0, 2)", Scenes::busy, 0, 5, (y, n) -> y.roll(n, 0, 2)));
        Check.sentence("Promise 6: ring: 0 to 3; throws IndexOutOfBoundsException if there is no such ring",
                () -> Check.indexes("roll(2, n, 4 - n)", Scenes::stairs, 0, 3,
                        (y, n) -> y.roll(2, n, n >= 0 && n <= 3 ? 4 - n : 1)));
        Check.sentence("Promise 6: version: a version; throws IndexOutOfBoundsException if there is no such version",
                BoundsOfChangesTest::versionsOfRoll);
        Check.sentence("Promise 6: Returns the number of the change", () -> countsUp((y, n) -> y.roll(0, 0, n % 2)));
        Check.sentence("Promise 6: Throws IllegalStateException if the person rests in this half",
                () -> refusedInRest(y -> y.roll(0, 0, 1), y -> y.roll(1, 0, 1)));
        Check.sentence("Promise 6: Throws IllegalStateException if the ring runs the version",
                BoundsOfChangesTest::rollOfWhatItRuns);
        Check.sentence("Promise 6: Throws IllegalStateException if there are 200 changes",
                () -> refusedWith200(y -> y.roll(0, 0, 1)));
        Check.sentence("Promise 6: the first line of the throws clause decides", BoundsOfChangesTest::rollsFirstLine);
    }

    private static void versionsOfRoll() {
        for (int count : new int[] {2, 19, 20}) {
            Check.Scenario scenario = Scenes.versions(count);
            Check.indexes("roll(2, 0, n) of " + count, scenario, 1, count - 1,
                    (y, n) -> y.roll(2, 0, n == 0 ? -1 : n));
            Check.indexes("roll(2, 0, n) of " + count + ", when it runs the last but one",
                    scenario.then(y -> y.roll(0, 0, count - 1)), 0, count - 2,
                    (y, n) -> y.roll(2, 0, n == count - 1 ? count : n));
        }
        Check.throwsIndex("roll(2, 3, 1) of 1", Scenes::nothing, y -> y.roll(2, 3, 1));
        Check.throwsIndex("roll(2, 3, -1) of 1", Scenes::nothing, y -> y.roll(2, 3, Rotaforge.NONE));
    }

    private static void rollOfWhatItRuns() {
        for (int ring = 0; ring < 4; ring++) {
            int same = ring;
            Check.throwsState("roll of the version at first", Scenes.at(2), y -> y.roll(0, same, 0));
            Check.throwsState("roll of the version that it runs", Scenes::stairs, y -> y.roll(0, same, 3 - same));
        }
        Check.throwsState("roll again in the same half", Scenes.justAhead(1), y -> y.roll(2, 0, 1));
        Check.allows("roll back in the same half", Scenes.justAhead(1), y -> y.roll(2, 0, 0));
        Check.allows("roll on in the same half", Scenes.justAhead(1), y -> y.roll(2, 0, 2));
        Check.throwsState("roll of the version that a revert set", Scenes.justAhead(1).then(y -> y.revert(1, 0)),
                y -> y.roll(0, 0, 0));
    }

    private static void rollsFirstLine() {
        Check.Scenario resting = Scenes.onlyPersonZeroRests(2);
        Check.throwsIndex("no such ring, the person rests", resting, y -> y.roll(0, 4, 1));
        Check.throwsIndex("no such ring, the person rests", resting, y -> y.roll(0, -1, 1));
        Check.throwsIndex("no such version, the person rests", resting, y -> y.roll(0, 0, 2));
        Check.throwsIndex("no such person, the ring runs the version", resting, y -> y.roll(6, 0, 0));
        Check.throwsIndex("no such person, the ring is held back", resting, y -> y.roll(-1, 1, 1));
        Check.throwsIndex("no such version, which the ring ahead does not run", resting, y -> y.roll(1, 1, 2));
        Check.Scenario full = Scenes::twoHundredChanges;
        Check.throwsIndex("no such person, 200 changes", full, y -> y.roll(6, 0, 1));
        Check.throwsIndex("no such ring, 200 changes", full, y -> y.roll(0, 4, 1));
        Check.throwsIndex("no such version, 200 changes", full, y -> y.roll(0, 0, 2));
        Check.throwsIndex("no such version, 200 changes", full, y -> y.roll(0, 0, -1));
    }

    private static void ofHeldBack() {
        Check.sentence("Promise 6: the ring is held back: it is not ring 0", BoundsOfChangesTest::ringZeroIsNot);
        Check.sentence("Promise 6: and the ring ahead of it (with the number that is 1 less) does not run this version",
                BoundsOfChangesTest::theRingAheadRunsAnother);
        Check.sentence("Promise 6: since two halves ago or longer", BoundsOfChangesTest::sinceTwoHalvesAgo);
        Check.sentence("Promise 6: or an incident is open in a ring with a lower number",
                BoundsOfChangesTest::anIncidentBelow);
    }

    private static void ringZeroIsNot() {
        Check.allows("roll(0, 0, 2) in the first half", Scenes.versions(3), y -> y.roll(0, 0, 2));
        Check.Scenario justRolled = Scenes.justAhead(1);
        Check.allows("roll(0, 0, 2) a moment behind another", justRolled, y -> y.roll(0, 0, 2));
        Check.Scenario faulty = justRolled.then(Scenes.allFaulty(0)).then(y -> y.defect(1, -1, true))
                .then(y -> y.pass(2));
        Check.due("an incident is open in ring 0", Check.played(faulty).openIn(0), 0);
        Check.due("an incident is open in ring 3", Check.played(faulty).openIn(3), 3);
        Check.allows("roll(5, 0, 2) while incidents are open in all rings", faulty, y -> y.roll(5, 0, 2));
    }

    private static void theRingAheadRunsAnother() {
        for (int ring = 1; ring <= 3; ring++) {
            int held = ring;
            Check.throwsState("the version of two rings ahead", Scenes::stairs, y -> y.roll(0, held, 5 - held));
            Check.allows("the version of the ring ahead", Scenes::stairs, y -> y.roll(0, held, 4 - held));
        }
        Check.throwsState("a version that just runs behind it", Scenes::stairs, y -> y.roll(0, 1, 1));
        Check.throwsState("the version at first, which no ring ahead runs", Scenes::stairs, y -> y.roll(0, 2, 0));
        Check.throwsState("a version that no ring runs", Scenes::stairs, y -> y.roll(0, 1, 4));
        Check.throwsState("what the ring ahead ran long", Scenes.justAhead(1).then(y -> y.pass(20))
                .then(y -> y.roll(0, 0, 2)), y -> y.roll(0, 1, 1));
    }

    private static void sinceTwoHalvesAgo() {
        for (int ring = 1; ring <= 3; ring++) {
            int next = ring;
            Check.Scenario now = Scenes.justAhead(ring);
            Check.throwsState("in this half, ring " + ring, now, y -> y.roll(0, next, 1));
            Check.throwsState("since one half ago, ring " + ring, now.then(y -> y.pass(1)), y -> y.roll(0, next, 1));
            Check.allows("since two halves ago, ring " + ring, now.then(y -> y.pass(2)), y -> y.roll(0, next, 1));
            Check.allows("since three halves ago, ring " + ring, now.then(y -> y.pass(3)), y -> y.roll(0, next, 1));
            Check.Scenario awayAndBack = now.then(y -> y.pass(5)).then(y -> {
                y.revert(0, y.changes() - 1);
                y.revert(0, y.changes() - 1);
            });
            Check.throwsState("anew in this half, ring " + ring, awayAndBack, y -> y.roll(0, next, 1));
            Check.throwsState("anew since one half ago, ring " + ring, awayAndBack.then(y -> y.pass(1)),
                    y -> y.roll(0, next, 1));
            Check.allows("anew since two halves ago, ring " + ring, awayAndBack.then(y -> y.pass(2)),
                    y -> y.roll(0, next, 1));
        }
        for (int away = 1; away <= 3; away++) {
            int halves = away;
            Check.Scenario back = Scenes.justAhead(1).then(y -> y.pass(9)).then(y -> y.roll(0, 0, 2))
                    .then(y -> y.pass(halves)).then(y -> y.roll(0, 0, 1));
            Check.throwsState("back behind " + away + " halves", back, y -> y.roll(0, 1, 1));
            Check.throwsState("back since one half ago", back.then(y -> y.pass(1)), y -> y.roll(0, 1, 1));
            Check.allows("back since two halves ago", back.then(y -> y.pass(2)), y -> y.roll(0, 1, 1));
        }
        Check.Scenario end = Scenes.at(558).then(Scenes.justAhead(1));
        Check.throwsState("since 558 in the half 559", end.then(y -> y.pass(1)), y -> y.roll(0, 1, 1));
        Check.allows("since 558 in the half 560", end.then(y -> y.pass(2)), y -> y.roll(0, 1, 1));
    }

    /** The rings ahead run the version 1 long enough, and now an incident is open in one of them alone. */
    private static Check.Scenario openOnlyIn(int faulty, int ring) {
        return x -> {
            Scenes.justAhead(ring).play(x);
            x.pass(3);
            x.defect(1, 0, true);
            x.turn(0, 0, faulty + 1);
            x.pass(1);
            if (faulty == 1) {
                x.roll(1, 0, 2);
                x.pass(1);
            }
        };
    }

    private static void anIncidentBelow() {
        for (int[] pair : new int[][] {{0, 1}, {0, 2}, {0, 3}, {1, 3}}) {
            int faulty = pair[0];
            int held = pair[1];
            Check.Scenario open = openOnlyIn(faulty, held);
            for (int other = 0; other < 4; other++) {
                Check.due("an incident is open in ring " + other, Check.played(open).openIn(other) != -1,
                        other == faulty);
            }
            Check.throwsState("open in ring " + faulty + ", for ring " + held, open, y -> y.roll(1, held, 1));
        }
        for (int ring = 1; ring <= 3; ring++) {
            int held = ring;
            Check.Scenario lastBelow = justBelow(ring);
            for (int other = 0; other < 4; other++) {
                Check.due("an incident is open in ring " + other, Check.played(lastBelow).openIn(other) != -1,
                        other == ring - 1);
            }
            Check.throwsState("open in the ring ahead of ring " + ring, lastBelow, y -> y.roll(1, held, 1));
            Check.Scenario mended = lastBelow.then(y -> y.turn(1, 0, 4));
            Check.throwsState("mended, but open until the half passes", mended, y -> y.roll(1, held, 1));
            Check.allows("closed when the half has passed", mended.then(y -> y.pass(1)), y -> y.roll(1, held, 1));
            Check.Scenario above = Scenes.justAhead(ring).then(y -> y.pass(1)).then(Scenes.allFaulty(1));
            Check.due("open in the ring itself", Check.played(above).openIn(ring), 0);
            Check.due("open in the highest ring", Check.played(above).openIn(3), 3 - ring);
            Check.allows("open in the ring itself and above, for ring " + ring, above, y -> y.roll(1, held, 1));
            Check.Scenario unopened = Scenes.justAhead(ring).then(y -> y.pass(2)).then(y -> y.defect(1, -1, true));
            Check.allows("faulty below without an incident, for ring " + ring, unopened, y -> y.roll(1, held, 1));
        }
    }

    /** Just the ring ahead of this one is faulty: the others that run its version have a switch on. */
    private static Check.Scenario justBelow(int ring) {
        return x -> {
            if (ring > 1) {
                x.turn(0, 0, ring - 1);
            }
            Scenes.justAhead(ring).play(x);
            x.pass(2);
            x.defect(1, 0, false);
            x.pass(1);
        };
    }

    private static void ofRevert() {
        Check.sentence("Promise 7: person: 0 to 5; throws IndexOutOfBoundsException if there is no such person", () ->
                Check.indexes("revert(n, 3)", Scenes::busy, 0, 5, (y, n) -> y.revert(n, 3)));
        Check.sentence("Promise 7: change: a change; throws IndexOutOfBoundsException if there is no such change",
                BoundsOfChangesTest::changesOfRevert);
        Check.sentence("Promise 7: as it is without that change", BoundsOfChangesTest::asWithoutIt);
        Check.sentence("Promise 7: No ring is held back from that", BoundsOfChangesTest::notHeldBack);
        Check.sentence("Promise 7: Returns the number of the new change",
                () -> countsUp((y, n) -> n == 1 ? y.turn(0, 1, 4) : y.revert(0, n - 2)));
        Check.sentence("Promise 7: Throws IllegalStateException if the person rests in this half",
                () -> refusedInRest(y -> y.revert(0, 1), y -> y.revert(1, 1)));
        Check.sentence("Promise 7: Throws IllegalStateException if a later change is of the same switch or ring",
                BoundsOfChangesTest::laterChanges);
        Check.sentence("Promise 7: Throws IllegalStateException if there are 200 changes",
                () -> refusedWith200(y -> y.revert(0, y.changes() - 1)));
        Check.sentence("Promise 7: the first line of the throws clause decides",
                BoundsOfChangesTest::revertsFirstLine);
    }

    /** A change of each switch, and of the ring 0: none of them is the latest of another. */
    private static void oneOfEach(Rotaforge x) {
        x.build();
        for (int control = 0; control < 8; control++) {
            x.turn(control % 6, control, 1 + control % 4);
        }
        x.roll(0, 0, 1);
    }

    private static void changesOfRevert() {
        Check.indexes("revert(2, n)", BoundsOfChangesTest::oneOfEach, 0, 8, (y, n) -> y.revert(2, n));
        Check.throwsIndex("revert(0, 0) of none", Scenes::nothing, y -> y.revert(0, 0));
        Check.indexes("revert(0, n) of one", Scenes.changes(1), 0, 0, (y, n) -> y.revert(0, n));
        Check.allows("revert(0, 198) of 199", Scenes.changes(199), y -> y.revert(0, 198));
        Check.throwsIndex("revert(0, 199) of 199", Scenes.changes(199), y -> y.revert(0, 199));
    }

    private static void asWithoutIt() {
        Rotaforge first = Check.played(BoundsOfChangesTest::oneOfEach);
        for (int change = 0; change < 8; change++) {
            first.revert(5, change);
            Check.due("level, as at first", first.level(change), 0);
        }
        first.revert(5, 8);
        Check.due("version, as at first", first.version(0), 0);
        Rotaforge x = Check.played(Scenes.versions(20));
        x.turn(0, 7, 4);
        x.turn(0, 7, 0);
        x.roll(0, 0, 19);
        x.roll(0, 0, 0);
        Check.due("the new change of a switch", x.change(x.revert(5, 1)), 50704);
        Check.due("level(7), as the change ahead set it", x.level(7), 4);
        Check.due("the new change of a ring", x.change(x.revert(5, 3)), 51019);
        Check.due("version(0), as the change ahead set it", x.version(0), 19);
        Check.due("the revert set back", x.change(x.revert(4, 5)), 41000);
        Check.due("version(0), as without the revert", x.version(0), 0);
    }

    private static void notHeldBack() {
        for (int ring = 1; ring <= 3; ring++) {
            int set = ring;
            Check.Scenario rolled = Scenes.justAhead(ring + 1);
            Check.throwsState("a roll back to what the ring ahead does not run", rolled, y -> y.roll(0, set, 0));
            Check.allows("a revert to what the ring ahead does not run", rolled, y -> y.revert(0, set));
            Check.Scenario open = rolled.then(y -> y.defect(1, -1, true)).then(y -> y.pass(1));
            Check.due("an incident is open in ring 0", Check.played(open).openIn(0), 0);
            Check.allows("a revert while incidents are open in lower rings", open, y -> y.revert(0, set));
        }
    }

    private static void laterChanges() {
        Check.Scenario two = Scenes.versions(3).then(y -> {
            y.turn(0, 0, 1);
            y.turn(0, 0, 2);
            y.roll(0, 0, 1);
            y.roll(0, 0, 2);
        });
        Check.throwsState("a later change of the switch", two, y -> y.revert(0, 0));
        Check.allows("the latest of the switch, a later one of the ring with its number", two, y -> y.revert(0, 1));
        Check.throwsState("a later change of the ring", two, y -> y.revert(0, 2));
        Check.allows("the latest of the ring", two, y -> y.revert(0, 3));
        Check.throwsState("a revert is a later change of the switch", two.then(y -> y.revert(0, 1)),
                y -> y.revert(0, 1));
        Check.throwsState("a revert is a later change of the ring", two.then(y -> y.revert(0, 3)),
                y -> y.revert(0, 3));
        Check.allows("the latest of the ring, with later ones of a switch", two.then(y -> y.turn(0, 0, 3)),
                y -> y.revert(0, 3));
        Check.Scenario nearest = Scenes.versions(2).then(y -> {
            y.turn(0, 7, 1);
            y.roll(0, 0, 1);
        });
        Check.allows("the last switch, with a later one of the first ring", nearest, y -> y.revert(0, 0));
    }

    private static void revertsFirstLine() {
        Check.Scenario resting = Scenes.onlyPersonZeroRests(2);
        Check.throwsIndex("no such change, the person rests", resting, y -> y.revert(0, 2));
        Check.throwsIndex("no such change, the person rests", resting, y -> y.revert(0, -1));
        Check.throwsIndex("no such person, a later change", resting, y -> y.revert(6, 0));
        Check.throwsIndex("no such person, a later change", resting, y -> y.revert(-1, 0));
        Check.Scenario full = Scenes::twoHundredChanges;
        Check.throwsIndex("no such person, 200 changes", full, y -> y.revert(6, 199));
        Check.throwsIndex("no such change, 200 changes", full, y -> y.revert(0, 200));
        Check.throwsIndex("no such change, 200 changes", full, y -> y.revert(0, -1));
    }
}

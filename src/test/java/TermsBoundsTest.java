/** A test of its own for each sentence of the document's Terms that names a bound. */
public final class TermsBoundsTest {
    public static void main(String[] args) {
        ofTime();
        ofVersionsRingsSwitches();
        ofChanges();
        ofWeeks();
        ofRest();
        ofHalves();
        ofExceptions();
        Check.end("TermsBoundsTest");
    }

    private static void ofTime() {
        Check.sentence("The constants: NONE = -1", () -> Check.due("NONE", Rotaforge.NONE, -1));
        Check.sentence("An object is used for at most 512 calls", TermsBoundsTest::lastOf512Calls);
        Check.sentence("Time is told in halves of days, from 0 to 560", TermsBoundsTest::timeIsFrom0To560);
        Check.sentence("even ones are days, odd ones are nights", TermsBoundsTest::evenHalvesAreDays);
        Check.sentence("Week w has the halves from 14 * w to 14 * w + 13", TermsBoundsTest::weeksHave14Halves);
        Check.sentence("There are the persons 0 to 5", TermsBoundsTest::thereAreSixPersons);
    }

    private static void lastOf512Calls() {
        Rotaforge x = Check.played(Scenes.changes(200));
        x.defect(0, 1, false);
        for (int call = 202; call <= 510; call++) {
            x.time();
        }
        Check.due("call 511, pass(28)", x.pass(28), 4);
        Check.due("call 512, openedAt(3)", x.openedAt(3), 13);
    }

    private static void timeIsFrom0To560() {
        Check.due("time at first", new Rotaforge().time(), 0);
        Check.due("the time behind 560 halves", Check.played(Scenes.at(560)).time(), 560);
        Check.throwsState("a half more", Scenes.at(560), y -> y.pass(1));
        Rotaforge x = new Rotaforge();
        for (int half = 1; half <= 400; half++) {
            x.pass(1);
        }
        Check.due("the time behind 400 halves, one by one", x.time(), 400);
    }

    private static void evenHalvesAreDays() {
        Rotaforge x = Check.played(Scenes.allFaulty(1));
        Check.due("calls of 0 at night in the half 1", x.calls(0, true), 1);
        Check.due("calls of 0 by day in the half 1", x.calls(0, false), 0);
        x.pass(1);
        Check.due("calls of 1 at night in the half 2", x.calls(1, true), 0);
        Check.due("calls of 1 by day in the half 2", x.calls(1, false), 1);
        Rotaforge end = Check.played(Scenes.at(558).then(Scenes.allFaulty(1)));
        Check.due("calls of 3 at night in the half 559", end.calls(3, true), 1);
        Check.due("calls of 3 by day in the half 559", end.calls(3, false), 0);
        end.pass(1);
        Check.due("calls of 4 at night in the half 560", end.calls(4, true), 0);
        Check.due("calls of 4 by day in the half 560", end.calls(4, false), 1);
    }

    private static void weeksHave14Halves() {
        Rotaforge x = new Rotaforge();
        for (int week = 0; week < 40; week++) {
            Check.due("onCall in the first half of week " + week, x.onCall(), week % 6);
            x.pass(13);
            Check.due("onCall in the last half of week " + week, x.onCall(), week % 6);
            int next = week + 2;
            Check.due("holder(" + next + ") in it", Check.outcome(() -> x.holder(next)),
                    "throws.IndexOutOfBoundsException");
            x.pass(1);
            Check.due("holder(" + next + ") when the next begins", x.holder(next), next % 6);
        }
        Check.due("onCall in the half 560, of week 40", x.onCall(), 4);
    }

    private static void thereAreSixPersons() {
        Rotaforge x = new Rotaforge();
        x.defect(0, Rotaforge.NONE, true);
        for (int person = 0; person < 6; person++) {
            Check.due("onCall, when all below rest", x.onCall(), person);
            x.pass(2);
        }
        Check.due("onCall, when all six rest", x.onCall(), Rotaforge.NONE);
    }

    private static void ofVersionsRingsSwitches() {
        Check.sentence("Versions are numbered from 0; there are at most 20, at first just the version 0",
                TermsBoundsTest::thereAreAtMost20Versions);
        Check.sentence("There are the rings 0 to 3, each of which runs a version, at first the version 0, "
                + "since the time 0", TermsBoundsTest::thereAreFourRings);
        Check.sentence("There are the switches 0 to 7", TermsBoundsTest::thereAreEightSwitches);
        Check.sentence("A switch has a level, 0 to 4, at first 0: it is set in the rings whose numbers are below "
                + "its level", TermsBoundsTest::levelsBoundRings);
        Check.sentence("no switch needs itself, directly or by those that it needs",
                TermsBoundsTest::noSwitchNeedsItself);
        Check.sentence("A switch is on in a ring if it is set there, and all that it needs are on there",
                TermsBoundsTest::onWithAllThatItNeeds);
        Check.sentence("A defect is of a version, and shows always, or where a switch is on, or where a switch is "
                + "not on", TermsBoundsTest::defectsShowAtTheEdgeOfALevel);
        Check.sentence("A ring is faulty if a defect of the version that it runs shows there",
                TermsBoundsTest::faultyByOneOfAllDefects);
    }

    private static void thereAreAtMost20Versions() {
        Check.due("versions at first", new Rotaforge().versions(), 1);
        Check.throwsIndex("the version 1 at first", Scenes::nothing, y -> y.roll(0, 0, 1));
        Rotaforge x = Check.played(Scenes.versions(19));
        Check.due("the last that is built", x.build(), 19);
        x.roll(0, 0, 19);
        Check.due("version(0), the last", x.version(0), 19);
        Check.throwsState("a 21st version", Scenes.versions(20), y -> y.build());
        Check.throwsIndex("the version 20", Scenes.versions(20), y -> y.roll(0, 0, 20));
    }

    private static void thereAreFourRings() {
        for (int ring = 0; ring < 4; ring++) {
            Check.due("version(" + ring + ") at first", new Rotaforge().version(ring), 0);
        }
        Rotaforge x = new Rotaforge();
        x.defect(0, Rotaforge.NONE, true);
        Check.due("incidents when all rings are faulty", x.pass(1), 4);
        Check.due("openedAt(0)", x.openedAt(0), 10);
        Check.due("openedAt(3)", x.openedAt(3), 13);
    }

    private static void thereAreEightSwitches() {
        Rotaforge x = new Rotaforge();
        for (int control = 0; control < 8; control++) {
            x.turn(0, control, control % 4 + 1);
        }
        for (int control = 0; control < 8; control++) {
            Check.due("level(" + control + "), each of its own", x.level(control), control % 4 + 1);
        }
    }

    private static void levelsBoundRings() {
        for (int control = 0; control < 8; control++) {
            Rotaforge x = new Rotaforge();
            Check.due("level at first", x.level(control), 0);
            Check.due("isOn in the lowest ring at first", x.isOn(control, 0), false);
            for (int level = 1; level <= 4; level++) {
                x.turn(0, control, level);
                Check.due("isOn in the ring below the level " + level, x.isOn(control, level - 1), true);
                if (level < 4) {
                    Check.due("isOn in the ring of the level " + level, x.isOn(control, level), false);
                }
                Check.due("isOn in the ring 0 at the level " + level, x.isOn(control, 0), true);
            }
            x.turn(0, control, 0);
            Check.due("isOn in the lowest ring at the level 0", x.isOn(control, 0), false);
        }
    }

    /** From this switch on each needs the one that is so much further on, round all eight. */
    private static Check.Scenario chain(int start, int step) {
        return x -> {
            for (int i = 0; i < 7; i++) {
                x.need(link(start, step, i), link(start, step, i + 1), true);
            }
        };
    }

    private static int link(int start, int step, int place) {
        return (start + place * step) % 8;
    }

    private static void noSwitchNeedsItself() {
        for (int start = 0; start < 8; start++) {
            int same = start;
            Check.throwsArgument("need(n, n, true)", Scenes::nothing, y -> y.need(same, same, true));
            for (int step = 1; step < 8; step += 2) {
                int last = link(start, step, 7);
                for (int i = 0; i < 7; i++) {
                    int other = link(start, step, i);
                    Check.throwsState("a chain of " + (8 - i) + " closed", chain(start, step),
                            y -> y.need(last, other, true));
                }
                Rotaforge x = Check.played(chain(start, step));
                Check.due("the longest chain, and its ends the other way", x.need(start, last, true), 2);
            }
        }
    }

    private static void onWithAllThatItNeeds() {
        for (int start = 0; start < 8; start++) {
            for (int step = 1; step < 8; step += 2) {
                int last = link(start, step, 7);
                Rotaforge x = Check.played(chain(start, step));
                for (int control = 0; control < 8; control++) {
                    x.turn(0, control, control == last ? 2 : 4);
                }
                Check.due("the first in the last ring where the end of its chain is set", x.isOn(start, 1), true);
                Check.due("the first in the first ring where it is not", x.isOn(start, 2), false);
                Check.due("the one ahead of the end there", x.isOn(link(start, step, 6), 2), false);
                x.turn(0, start, 0);
                Check.due("the first where it is not set itself", x.isOn(start, 0), false);
                Check.due("the second, which does not need the first", x.isOn(link(start, step, 1), 0), true);
            }
        }
        Rotaforge all = new Rotaforge();
        for (int control = 0; control < 8; control++) {
            all.turn(0, control, 1);
        }
        for (int other = 1; other < 8; other++) {
            all.need(0, other, true);
        }
        Check.due("0 with all seven on", all.isOn(0, 0), true);
        for (int other = 1; other < 8; other++) {
            all.turn(0, other, 0);
            Check.due("0 without " + other + " alone", all.isOn(0, 0), false);
            all.turn(0, other, 1);
        }
    }

    private static void defectsShowAtTheEdgeOfALevel() {
        for (int control = 0; control < 8; control += 7) {
            for (int level = 0; level <= 4; level++) {
                Rotaforge on = new Rotaforge();
                Rotaforge off = new Rotaforge();
                on.defect(0, control, true);
                off.defect(0, control, false);
                if (level > 0) {
                    on.turn(0, control, level);
                    off.turn(0, control, level);
                }
                for (int ring = 0; ring < 4; ring++) {
                    String where = " in the ring " + ring + " at the level " + level;
                    Check.due("where it is on," + where, on.isFaulty(ring), ring < level);
                    Check.due("where it is not on," + where, off.isFaulty(ring), ring >= level);
                }
            }
        }
        Rotaforge always = Check.played(Scenes.allFaulty(0));
        always.turn(0, 0, 4);
        Check.due("always, in the ring 0", always.isFaulty(0), true);
        Check.due("always, in the ring 3", always.isFaulty(3), true);
    }

    private static void faultyByOneOfAllDefects() {
        for (int showing = 0; showing < 24; showing += 23) {
            Rotaforge x = new Rotaforge();
            Check.due("without a defect", x.isFaulty(0), false);
            for (int i = 0; i < 24; i++) {
                x.defect(0, i == showing ? 7 : 0, true);
            }
            Check.due("with 24 that do not show", x.isFaulty(0), false);
            x.turn(0, 7, 1);
            Check.due("when one of 24 shows", x.isFaulty(0), true);
        }
        Rotaforge last = Check.played(Scenes.versions(20));
        last.defect(19, Rotaforge.NONE, true);
        Check.due("a defect of the version 19, which it does not run", last.isFaulty(0), false);
        last.roll(0, 0, 18);
        Check.due("a defect of the version 19, when it runs 18", last.isFaulty(0), false);
        last.roll(0, 0, 19);
        Check.due("a defect of the version 19, which it runs", last.isFaulty(0), true);
    }

    private static void ofChanges() {
        Check.sentence("Changes are numbered from 0; there are at most 200",
                TermsBoundsTest::thereAreAtMost200Changes);
        Check.sentence("is what the latest other change of this switch or ring set, if there is one",
                TermsBoundsTest::withoutAChangeTheLatestOther);
        Check.sentence("otherwise as at first", TermsBoundsTest::withoutTheOnlyChangeAsAtFirst);
        Check.sentence("all other changes stay", TermsBoundsTest::allOtherChangesStay);
        Check.sentence("A change heals a faulty ring if the ring would not be faulty without it",
                TermsBoundsTest::onlyAFaultyRingIsHealed);
        Check.sentence("A ring that is faulty is traced to the latest change that heals it",
                TermsBoundsTest::tracedToTheLatest);
        Check.sentence("to NONE, if none does", TermsBoundsTest::tracedToNone);
    }

    private static void thereAreAtMost200Changes() {
        Check.due("the first", new Rotaforge().turn(0, 0, 1), 0);
        Check.due("the last, a turn", Check.played(Scenes.changes(199)).turn(0, 1, 1), 199);
        Check.due("the last, a roll", Check.played(Scenes.versions(2).then(Scenes.changes(199))).roll(0, 0, 1), 199);
        Check.due("the last, a revert", Check.played(Scenes.changes(199)).revert(0, 198), 199);
        Check.throwsState("a turn more", Scenes::twoHundredChanges, y -> y.turn(0, 1, 1));
        Check.throwsState("a roll more", Scenes::twoHundredChanges, y -> y.roll(0, 0, 1));
        Check.throwsState("a revert more", Scenes::twoHundredChanges, y -> y.revert(0, 199));
    }

    private static void withoutAChangeTheLatestOther() {
        Rotaforge x = new Rotaforge();
        x.turn(0, 0, 1);
        x.turn(0, 0, 2);
        x.turn(0, 0, 4);
        x.defect(0, 0, true);
        Check.due("without the latest the one ahead of it: ring 1", x.heals(2, 1), false);
        Check.due("without the latest the one ahead of it: ring 2", x.heals(2, 2), true);
        Check.due("without the one ahead of it the latest", x.heals(1, 1), false);
        Check.due("without the first the latest", x.heals(0, 0), false);
        Rotaforge ring = Check.played(Scenes.versions(3));
        ring.defect(1, Rotaforge.NONE, true);
        ring.roll(0, 0, 2);
        ring.roll(0, 0, 1);
        Check.due("without the latest roll the one ahead of it", ring.heals(1, 0), true);
        Check.due("without the first roll the latest", ring.heals(0, 0), false);
    }

    private static void withoutTheOnlyChangeAsAtFirst() {
        Rotaforge x = new Rotaforge();
        x.defect(0, 7, true);
        x.turn(0, 7, 1);
        Check.due("without the only turn the level 0", x.heals(0, 0), true);
        x.revert(0, 0);
        Check.due("the level that is set back", x.level(7), 0);
        Rotaforge ring = Check.played(Scenes.versions(20));
        ring.defect(19, 7, false);
        ring.roll(0, 0, 19);
        Check.due("without the only roll the version 0", ring.heals(0, 0), true);
        ring.defect(0, 7, false);
        Check.due("without the only roll the version 0, as bad", ring.heals(0, 0), false);
        ring.revert(0, 0);
        Check.due("the version that is set back", ring.version(0), 0);
    }

    private static void allOtherChangesStay() {
        Rotaforge x = Check.played(Scenes.versions(2));
        x.defect(1, 0, true);
        x.defect(1, 1, true);
        x.turn(0, 0, 1);
        x.roll(0, 0, 1);
        Check.due("the turn stays without the roll and heals too", x.heals(0, 0), true);
        Check.due("the roll heals", x.heals(1, 0), true);
        x.turn(0, 1, 1);
        Check.due("without the first turn the second stays", x.heals(0, 0), false);
        Check.due("without the second turn the first stays", x.heals(2, 0), false);
        Check.due("the roll heals still", x.heals(1, 0), true);
    }

    private static void onlyAFaultyRingIsHealed() {
        Rotaforge x = new Rotaforge();
        x.turn(0, 0, 2);
        Check.due("a ring that never was faulty", x.heals(0, 0), false);
        x.defect(0, 0, true);
        Check.due("the last ring that is faulty", x.heals(0, 1), true);
        Check.due("the first that is not", x.heals(0, 2), false);
        x.defect(0, 1, false);
        Check.due("a ring that would be faulty without it too", x.heals(0, 1), false);
    }

    private static void tracedToTheLatest() {
        Rotaforge x = Check.played(Scenes.versions(2));
        x.defect(1, 0, true);
        x.turn(0, 0, 1);
        x.roll(0, 0, 1);
        Check.due("trace, the roll is later", x.trace(0), 1);
        Check.due("traceByTrying, the roll is later", x.traceByTrying(0), 1);
        Rotaforge y = Check.played(Scenes.versions(2));
        y.defect(1, 0, true);
        y.roll(0, 0, 1);
        y.turn(0, 0, 1);
        Check.due("trace, the turn is later", y.trace(0), 1);
        Check.due("traceByTrying, the turn is later", y.traceByTrying(0), 1);
        y.turn(0, 1, 1);
        Check.due("trace, one that is later still heals nothing", y.trace(0), 1);
        Check.due("traceByTrying, one that is later still heals nothing", y.traceByTrying(0), 1);
    }

    private static void tracedToNone() {
        Rotaforge x = Check.played(Scenes.allFaulty(0));
        Check.due("trace without changes", x.trace(0), Rotaforge.NONE);
        Check.due("traceByTrying without changes", x.traceByTrying(0), Rotaforge.NONE);
        x.turn(4, 0, 4);
        Check.due("trace with a change that does not heal", x.trace(3), Rotaforge.NONE);
        Check.due("traceByTrying with a change that does not heal", x.traceByTrying(3), Rotaforge.NONE);
        x.pass(1);
        Check.due("tracedTo", x.tracedTo(3), Rotaforge.NONE);
        for (int person = 0; person < 6; person++) {
            Check.due("blots(" + person + "), of nobody", x.blots(person), 0);
        }
    }

    private static void ofWeeks() {
        Check.sentence("Each week has a holder; that of week 0 is the person 0, that of week 1 the person 1",
                TermsBoundsTest::firstHolders);
        Check.sentence("Each person has blots, 0 at first", TermsBoundsTest::noBlotsAtFirst);
        Check.sentence("When week w, from 1 on, begins, the blots of its holder become 0",
                TermsBoundsTest::blotsOfTheHolderBecome0);
        Check.sentence("then the holder of week w + 1 is chosen", TermsBoundsTest::chosenWhenAWeekBegins);
        Check.sentence("of all persons but the holder of week w", TermsBoundsTest::notTheHolderOfThisWeek);
        Check.sentence("the one who is nearest, with the greatest number for how near",
                TermsBoundsTest::theNearestIsChosen);
        Check.sentence("of several the one with the lowest number (nearest)",
                TermsBoundsTest::theLowestOfTheNearest);
        Check.sentence("v less the latest week ahead of v of which the person is the holder",
                TermsBoundsTest::latestWeekAhead);
        Check.sentence("or v + 1 if there is none", TermsBoundsTest::noWeekAhead);
        Check.sentence("and the blots, together", TermsBoundsTest::weeksAndBlots);
    }

    private static void firstHolders() {
        Rotaforge x = new Rotaforge();
        Check.due("holder(0)", x.holder(0), 0);
        Check.due("holder(1)", x.holder(1), 1);
        Check.throwsIndex("holder(2), not chosen yet", Scenes::nothing, y -> y.holder(2));
    }

    private static void noBlotsAtFirst() {
        for (int person = 0; person < 6; person++) {
            Check.due("blots(" + person + ")", new Rotaforge().blots(person), 0);
        }
    }

    /** In the half 2, a day, a change of this person makes incidents in the rings below the level. */
    private static Check.Scenario blotted(int person, int level) {
        return x -> {
            x.pass(1);
            x.defect(0, 0, true);
            x.turn(person, 0, level);
            x.pass(1);
            x.turn(person, 0, 0);
        };
    }

    private static void blotsOfTheHolderBecome0() {
        Rotaforge zero = Check.played(blotted(0, 4));
        Check.due("blots of the holder of week 0, which does not begin", zero.blots(0), 4);
        Rotaforge x = Check.played(blotted(1, 4));
        x.pass(11);
        Check.due("blots of the holder of week 1 in the half 13", x.blots(1), 4);
        x.pass(1);
        Check.due("blots of the holder of week 1 in the half 14", x.blots(1), 0);
        Rotaforge other = Check.played(blotted(2, 4));
        other.pass(12);
        Check.due("blots of another when week 1 begins", other.blots(2), 4);
        other.pass(13);
        Check.due("blots of the holder of week 2 in the half 27", other.blots(2), 4);
        other.pass(1);
        Check.due("blots of the holder of week 2 in the half 28", other.blots(2), 0);
        Rotaforge taken = Check.played(blotted(4, 1));
        taken.takeOver(4);
        taken.pass(12);
        Check.due("blots of the one who took week 1 over", taken.blots(4), 0);
    }

    private static void chosenWhenAWeekBegins() {
        Rotaforge late = new Rotaforge();
        late.defect(0, 0, true);
        late.pass(13);
        late.turn(5, 0, 4);
        late.pass(1);
        Check.due("blots of 5, given in the first half of week 1", late.blots(5), 4);
        Check.due("holder(2), chosen ahead of them", late.holder(2), 2);
        late.turn(5, 0, 0);
        late.pass(13);
        Check.throwsIndex("holder(3) in the last half of week 1", Scenes.at(27), y -> y.holder(3));
        late.pass(1);
        Check.due("holder(3), chosen when week 2 begins", late.holder(3), 5);
        Rotaforge holder = Check.played(blotted(1, 4));
        holder.pass(12);
        Check.due("holder(2), the blots of 1 became 0 first", holder.holder(2), 2);
    }

    private static void notTheHolderOfThisWeek() {
        Rotaforge x = Check.played(blotted(1, 4));
        x.pass(12);
        Check.due("holder(2), not that of week 1", x.holder(2), 2);
        Rotaforge back = Check.played(blotted(0, 4));
        back.pass(12);
        Check.due("holder(2), the holder of week 0 may be it", back.holder(2), 0);
    }

    private static void theNearestIsChosen() {
        for (int person = 2; person < 6; person++) {
            Rotaforge x = Check.played(blotted(person, 1));
            x.pass(12);
            Check.due("holder(2), nearer by a blot", x.holder(2), person);
        }
        Rotaforge zero = Check.played(blotted(0, 2));
        zero.pass(12);
        Check.due("holder(2): 2 + 2 blots against 3", zero.holder(2), 0);
    }

    private static void theLowestOfTheNearest() {
        Rotaforge x = Check.played(Scenes.at(14));
        Check.due("holder(2), of four with 3", x.holder(2), 2);
        Rotaforge zero = Check.played(blotted(0, 1));
        zero.pass(12);
        Check.due("holder(2), of five with 3", zero.holder(2), 0);
        Rotaforge two = new Rotaforge();
        two.pass(1);
        two.defect(0, 0, true);
        two.defect(0, 1, true);
        two.turn(5, 0, 1);
        two.pass(1);
        two.turn(5, 0, 0);
        two.pass(1);
        two.turn(4, 1, 1);
        two.pass(1);
        two.pass(10);
        Check.due("blots of 4", two.blots(4), 1);
        Check.due("blots of 5", two.blots(5), 1);
        Check.due("holder(2), of two with 4", two.holder(2), 4);
    }

    private static void latestWeekAhead() {
        Rotaforge x = Check.played(Scenes.at(14));
        x.takeOver(0);
        Check.due("near(0) to week 3, the holder of weeks 0 and 2", x.near(0), 1);
        Check.due("near(1) to week 3, the holder of week 1", x.near(1), 2);
        x.pass(14);
        Check.due("near(0) to week 4", x.near(0), 2);
        Check.due("near(1) to week 4", x.near(1), 3);
        Rotaforge zero = new Rotaforge();
        Check.due("near(0) to week 2, the holder of week 0", zero.near(0), 2);
        Check.due("near(1) to week 2, the holder of week 1", zero.near(1), 1);
        Rotaforge end = Check.played(Scenes.at(560));
        Check.due("near(5) to week 42, the holder of week 41", end.near(5), 1);
        Check.due("near(4) to week 42, the holder of week 40", end.near(4), 2);
        Check.due("near(0) to week 42, the holder of week 36", end.near(0), 6);
    }

    private static void noWeekAhead() {
        Check.due("near(2) to week 2", new Rotaforge().near(2), 3);
        Check.due("near(5) to week 2", new Rotaforge().near(5), 3);
        Check.due("near(5) to week 5", Check.played(Scenes.at(42)).near(5), 6);
        Check.due("near(5) to week 6, the holder of week 5", Check.played(Scenes.at(56)).near(5), 1);
    }

    private static void weeksAndBlots() {
        Check.due("near(5) with a blot", Check.played(blotted(5, 1)).near(5), 4);
        Check.due("near(5) with four blots", Check.played(blotted(5, 4)).near(5), 7);
        Check.due("near(0) with four blots", Check.played(blotted(0, 4)).near(0), 6);
        Check.due("near(1) with four blots", Check.played(blotted(1, 4)).near(1), 5);
        Check.due("near(4) without", Check.played(blotted(5, 4)).near(4), 3);
    }

    private static void ofRest() {
        Check.sentence("The person on call in a half is the holder of its week, unless the holder rests in it",
                TermsBoundsTest::theHolderIsOnCall);
        Check.sentence("then, of all who do not rest in it, the one with the most blots",
                TermsBoundsTest::theOneWithTheMostBlots);
        Check.sentence("of several the one with the lowest number (blots)", TermsBoundsTest::theLowestOfThose);
        Check.sentence("nobody if all rest", TermsBoundsTest::nobodyIfAllRest);
    }

    private static void theHolderIsOnCall() {
        Check.due("onCall at first", new Rotaforge().onCall(), 0);
        Rotaforge other = Check.played(blotted(5, 4));
        Check.due("onCall, though another has blots", other.onCall(), 0);
        Rotaforge x = Check.played(Scenes.onlyPersonZeroRests(1));
        Check.due("onCall in the half ahead of the rest", x.onCall(), 0);
        x.pass(1);
        Check.due("onCall in the first half of the rest", x.onCall(), 3);
        x.pass(11);
        Check.due("onCall in the last half of the rest", x.onCall(), 3);
        x.pass(1);
        Check.due("onCall when the next week begins", x.onCall(), 1);
        Rotaforge late = Check.played(Scenes.allFaulty(15));
        Check.due("onCall in week 1 in the last half of the holder's rest", late.onCall(), 0);
        late.pass(1);
        Check.due("onCall in week 1 in the half behind it", late.onCall(), 1);
    }

    /** Behind blotted: another person gets blots in the half 4, and the person 0 rests from 6 on. */
    private static Check.Scenario blottedToo(int person, int level) {
        return x -> {
            x.pass(1);
            x.defect(0, 1, true);
            x.turn(person, 1, level);
            x.pass(3);
        };
    }

    private static void theOneWithTheMostBlots() {
        for (int person = 1; person < 6; person++) {
            int other = person == 1 ? 2 : 1;
            Rotaforge more = Check.played(blotted(person, 4).then(blottedToo(other, 3)));
            Check.due("blots of the other", more.blots(other), 3);
            Check.due("onCall, with four blots against three", more.onCall(), person);
            Rotaforge less = Check.played(blotted(person, 3).then(blottedToo(other, 4)));
            Check.due("onCall, with three blots against four", less.onCall(), other);
        }
        Rotaforge holder = Check.played(blotted(0, 4).then(blottedToo(4, 1)));
        Check.due("onCall, not the holder, who rests with four", holder.onCall(), 4);
    }

    private static void theLowestOfThose() {
        Rotaforge none = Check.played(Scenes.allFaulty(2));
        Check.due("onCall, of five without blots", none.onCall(), 1);
        none.pass(1);
        none.pass(1);
        Check.due("onCall, of four without blots", none.onCall(), 2);
        Rotaforge x = Check.played(blotted(5, 2).then(blottedToo(3, 2)));
        Check.due("blots of 3", x.blots(3), 2);
        Check.due("blots of 5", x.blots(5), 2);
        Check.due("onCall, of two with two blots", x.onCall(), 3);
    }

    private static void nobodyIfAllRest() {
        Check.due("onCall when five rest", Check.played(Scenes.allFaulty(11)).onCall(), 5);
        Check.due("onCall when all rest", Check.played(Scenes.allFaulty(12)).onCall(), Rotaforge.NONE);
        Check.due("onCall in the last half of that", Check.played(Scenes.allFaulty(13)).onCall(), Rotaforge.NONE);
        Check.due("onCall when one rests no more", Check.played(Scenes.allFaulty(14)).onCall(), 0);
    }

    private static void ofHalves() {
        Check.sentence("The time becomes 1 more. Then:", TermsBoundsTest::timeBecomes1More);
        Check.sentence("For each ring, by rising numbers", TermsBoundsTest::ringsByRisingNumbers);
        Check.sentence("if it is not faulty, its incident, if one is open, is closed",
                TermsBoundsTest::closedIfOneIsOpen);
        Check.sentence("If it is faulty, and no incident is open there, one opens", TermsBoundsTest::opensIfNoneIsOpen);
        Check.sentence("unless there were 200", TermsBoundsTest::unlessThereWere200);
        Check.sentence("the person who made that gets a blot", TermsBoundsTest::aBlotForEach);
        Check.sentence("If an incident is open, the person on call is called", TermsBoundsTest::calledIfOneIsOpen);
        Check.sentence("at night this person rests in the next twelve halves", TermsBoundsTest::restsTwelveHalves);
        Check.sentence("If nobody is on call, a call is missed", TermsBoundsTest::missedIfNobodyIsOnCall);
    }

    private static void timeBecomes1More() {
        Rotaforge x = Check.played(Scenes.allFaulty(1));
        Check.due("time", x.time(), 1);
        Check.due("openedAt(0), in the time that is 1 more", x.openedAt(0), 10);
    }

    private static void ringsByRisingNumbers() {
        Rotaforge x = Check.played(Scenes.allFaulty(1));
        for (int ring = 0; ring < 4; ring++) {
            Check.due("the ring of incident " + ring, x.openedAt(ring), 10 + ring);
        }
        Rotaforge last = Check.played(Scenes.incidents(199));
        last.turn(5, 0, 4);
        last.pass(1);
        Check.due("the ring of the last incident", last.openedAt(199) % 10, 0);
    }

    private static void closedIfOneIsOpen() {
        Rotaforge x = Check.played(Scenes.incidents(1));
        Check.due("openIn(0) when it is not faulty any more", x.openIn(0), Rotaforge.NONE);
        Check.due("closedAt(0)", x.closedAt(0), 3);
        x.pass(1);
        Check.due("closedAt(0), a half later", x.closedAt(0), 3);
        Check.due("openIn(1), where none was", x.openIn(1), Rotaforge.NONE);
    }

    private static void opensIfNoneIsOpen() {
        Rotaforge x = new Rotaforge();
        x.defect(0, 0, true);
        x.turn(5, 0, 1);
        Check.due("pass(1), faulty", x.pass(1), 1);
        Check.due("pass(1), faulty still", x.pass(1), 0);
        x.turn(5, 0, 2);
        Check.due("pass(1), another ring is faulty", x.pass(1), 1);
        x.turn(4, 0, 0);
        Check.due("pass(1), none is", x.pass(1), 0);
        x.turn(4, 0, 1);
        Check.due("pass(1), faulty again", x.pass(1), 1);
        Check.due("openIn(0), the new one", x.openIn(0), 2);
    }

    private static void unlessThereWere200() {
        Rotaforge x = Check.played(Scenes.incidents(199));
        x.turn(5, 0, 4);
        int blots = x.blots(5);
        Check.due("pass(1) with 199", x.pass(1), 1);
        Check.due("incidents", x.incidents(), 200);
        Check.due("blots of the one blot", x.blots(5), blots + 1);
        x.turn(5, 0, 0);
        x.pass(1);
        Check.due("closedAt(199)", x.closedAt(199), x.time());
        x.turn(5, 0, 4);
        int calls = Scenes.callsOfAll(x);
        Check.due("pass(8) with 200, all closed", x.pass(8), 0);
        Check.due("incidents", x.incidents(), 200);
        Check.due("openIn(0)", x.openIn(0), Rotaforge.NONE);
        Check.due("blots(5), no blot more", x.blots(5), blots + 1);
        Check.due("calls of all, no call more", Scenes.callsOfAll(x), calls);
        Check.due("missed", x.missed(), 0);
    }

    private static void aBlotForEach() {
        Rotaforge x = Check.played(Scenes.versions(2));
        x.defect(0, 0, true);
        x.defect(1, Rotaforge.NONE, true);
        x.turn(2, 0, 4);
        x.roll(3, 0, 1);
        x.pass(1);
        Check.due("blots(3), of the ring 0", x.blots(3), 0);
        Check.due("blots(2), of the other three", x.blots(2), 3);
        Check.due("tracedTo(0): without the roll the turn shows", x.tracedTo(0), Rotaforge.NONE);
        x.pass(1);
        Check.due("blots(2), none more while they are open", x.blots(2), 3);
    }

    private static void calledIfOneIsOpen() {
        Rotaforge none = Check.played(Scenes.at(13));
        Check.due("calls of 0 without an incident", none.calls(0, true) + none.calls(0, false), 0);
        Rotaforge x = Check.played(Scenes.at(1));
        x.defect(0, 0, true);
        x.turn(5, 0, 4);
        x.pass(1);
        Check.due("calls of 0 when four open", x.calls(0, false), 1);
        x.turn(5, 0, 0);
        x.pass(1);
        Check.due("calls of 0 at night when they are closed", x.calls(0, true), 0);
        Rotaforge third = Check.played(Scenes.at(1));
        third.defect(0, 0, false);
        third.turn(5, 0, 3);
        third.pass(1);
        Check.due("calls of 0, just the ring 3", third.calls(0, false), 1);
        third.pass(1);
        Check.due("calls of 0 at night, open since then", third.calls(0, true), 1);
    }

    private static void restsTwelveHalves() {
        for (int half = 1; half <= 15; half++) {
            Rotaforge x = Check.played(Scenes.onlyPersonZeroRests(half));
            Check.due("rests(0) in the half " + half, x.rests(0), half >= 2 && half <= 13);
            Check.due("rests(3), who was not called", x.rests(3), false);
        }
        Rotaforge day = Check.played(blotted(5, 1));
        for (int half = 2; half <= 15; half++) {
            Check.due("rests(0), called by day, in the half " + half, day.rests(0), false);
            day.pass(1);
        }
        Rotaforge end = Check.played(Scenes.at(558).then(Scenes.allFaulty(2)));
        Check.due("rests(3) in the half 560, called in 559", end.rests(3), true);
    }

    private static void missedIfNobodyIsOnCall() {
        Check.due("missed in the half 11", Check.played(Scenes.allFaulty(11)).missed(), 0);
        Check.due("missed in the half 12, by day", Check.played(Scenes.allFaulty(12)).missed(), 1);
        Check.due("missed in the half 13, at night", Check.played(Scenes.allFaulty(13)).missed(), 2);
        Check.due("missed in the half 14", Check.played(Scenes.allFaulty(14)).missed(), 2);
        Rotaforge quiet = new Rotaforge();
        quiet.defect(0, 0, false);
        quiet.pass(11);
        quiet.turn(5, 0, 4);
        quiet.pass(1);
        Check.due("onCall when all rest", quiet.onCall(), Rotaforge.NONE);
        Check.due("missed without an incident", quiet.missed(), 0);
    }

    private static void ofExceptions() {
        Check.sentence("a call that throws changes nothing", TermsBoundsTest::refusedCallsChangeNothing);
    }

    private static void refusedCallsChangeNothing() {
        Rotaforge called = Check.played(Scenes::busy);
        Rotaforge spared = Check.played(Scenes::busy);
        Check.WrongCall[] calls = {
            y -> y.defect(3, 0, true), y -> y.defect(0, 8, true),
            y -> y.need(8, 0, true), y -> y.need(0, 8, true), y -> y.need(4, 4, true), y -> y.need(7, 5, true),
            y -> y.turn(6, 0, 1), y -> y.turn(0, 8, 1), y -> y.turn(0, 0, 5), y -> y.turn(0, 0, 2),
            y -> y.roll(6, 0, 2), y -> y.roll(0, 4, 2), y -> y.roll(0, 0, 3), y -> y.roll(0, 0, 1),
            y -> y.roll(0, 1, 1), y -> y.roll(0, 1, 2),
            y -> y.revert(6, 3), y -> y.revert(0, 4), y -> y.revert(0, 2),
            y -> y.takeOver(6), y -> y.takeOver(0), y -> y.takeOver(1),
            y -> y.pass(0), y -> y.pass(29),
            y -> y.holder(2), y -> y.near(6), y -> y.blots(6), y -> y.rests(6), y -> y.calls(6, true),
            y -> y.version(4), y -> y.level(8), y -> y.isOn(8, 0), y -> y.isOn(0, 4), y -> y.isFaulty(4),
            y -> y.rollable(4), y -> y.change(4), y -> y.madeAt(4), y -> y.heals(4, 0), y -> y.heals(0, 4),
            y -> y.trace(4), y -> y.traceByTrying(4), y -> y.openIn(4), y -> y.openedAt(2), y -> y.closedAt(2),
            y -> y.tracedTo(2), y -> y.firstCalled(2)};
        for (int i = 0; i < calls.length; i++) {
            Check.WrongCall each = calls[i];
            String got = Check.outcome(() -> each.answer(called));
            Check.due("refused call " + i + ", whether it throws", got.startsWith("throws."), true);
        }
        Check.due("all that is seen then", Snapshot.of(called), Snapshot.of(spared));
    }
}

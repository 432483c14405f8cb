/** A test of its own for each sentence of the promises 1 to 4 that names a bound. */
public final class BoundsOfWhatThereIsTest {
    public static void main(String[] args) {
        ofNewObject();
        ofBuild();
        ofDefect();
        ofNeed();
        Check.end("BoundsOfWhatThereIsTest");
    }

    private static void ofNewObject() {
        Check.sentence("Promise 1: Time 0", () -> {
            Check.due("time", new Rotaforge().time(), 0);
            Check.throwsIndex("holder(2), of the week behind the next", Scenes::nothing, y -> y.holder(2));
        });
        Check.sentence("Promise 1: no changes", BoundsOfWhatThereIsTest::newWithoutChanges);
        Check.sentence("Promise 1: no incidents", BoundsOfWhatThereIsTest::newWithoutIncidents);
    }

    private static void newWithoutChanges() {
        Check.due("changes", new Rotaforge().changes(), 0);
        Check.throwsIndex("change(0)", Scenes::nothing, y -> y.change(0));
        Check.throwsIndex("madeAt(0)", Scenes::nothing, y -> y.madeAt(0));
        Check.throwsIndex("heals(0, 0)", Scenes::nothing, y -> y.heals(0, 0));
        Check.throwsIndex("revert(0, 0)", Scenes::nothing, y -> y.revert(0, 0));
    }

    private static void newWithoutIncidents() {
        Check.due("incidents", new Rotaforge().incidents(), 0);
        Check.throwsIndex("openedAt(0)", Scenes::nothing, y -> y.openedAt(0));
        Check.throwsIndex("closedAt(0)", Scenes::nothing, y -> y.closedAt(0));
        Check.throwsIndex("tracedTo(0)", Scenes::nothing, y -> y.tracedTo(0));
        Check.throwsIndex("firstCalled(0)", Scenes::nothing, y -> y.firstCalled(0));
        for (int ring = 0; ring < 4; ring++) {
            Check.due("openIn(" + ring + ")", new Rotaforge().openIn(ring), Rotaforge.NONE);
        }
    }

    private static void ofBuild() {
        Check.sentence("Promise 2: Returns its number", BoundsOfWhatThereIsTest::buildReturnsItsNumber);
        Check.sentence("Promise 2: Throws IllegalStateException if there are 20",
                BoundsOfWhatThereIsTest::buildEndsWith20);
    }

    private static void buildReturnsItsNumber() {
        Rotaforge x = new Rotaforge();
        for (int version = 1; version <= 19; version++) {
            Check.due("build", x.build(), version);
            x.roll(0, 0, version);
            Check.due("version(0), rolled to it", x.version(0), version);
        }
    }

    private static void buildEndsWith20() {
        Check.due("build with 19", Check.played(Scenes.versions(19)).build(), 19);
        Check.throwsState("build with 20", Scenes.versions(20), y -> y.build());
        Rotaforge x = Check.played(Scenes.versions(20));
        for (int i = 0; i < 3; i++) {
            Check.due("build with 20, again", Check.outcome(() -> x.build()), "throws.IllegalStateException");
        }
        Check.due("versions", x.versions(), 20);
    }

    private static void ofDefect() {
        Check.sentence("Promise 3: version: a version; throws IndexOutOfBoundsException if there is no such version",
                BoundsOfWhatThereIsTest::defectOfAVersion);
        Check.sentence("Promise 3: control: a switch, or NONE; throws IndexOutOfBoundsException if control is neither",
                BoundsOfWhatThereIsTest::defectOfASwitchOrNone);
        Check.sentence("Promise 3: NONE: it shows always; without a switch isOn does not matter",
                BoundsOfWhatThereIsTest::defectWithoutASwitch);
        Check.sentence("Promise 3: whether it shows where the switch is on, or where it is not",
                BoundsOfWhatThereIsTest::defectOnOrNot);
        Check.sentence("Promise 3: Returns how many defects there are then",
                BoundsOfWhatThereIsTest::defectReturnsHowMany);
        Check.sentence("Promise 3: Throws IllegalStateException if there are 24",
                BoundsOfWhatThereIsTest::defectsEndWith24);
        Check.sentence("Promise 3: the first line of the throws clause decides",
                BoundsOfWhatThereIsTest::defectsFirstLine);
    }

    private static void defectOfAVersion() {
        for (int count : new int[] {1, 2, 19, 20}) {
            Check.Scenario scenario = Scenes.versions(count);
            Check.indexes("defect(n, 0, true) of " + count, scenario, 0, count - 1, (y, n) -> y.defect(n, 0, true));
            Check.indexes("defect(n, -1, true) of " + count, scenario, 0, count - 1, (y, n) -> y.defect(n, -1, true));
        }
        Rotaforge x = Check.played(Scenes.versions(20));
        x.defect(19, Rotaforge.NONE, true);
        x.roll(0, 0, 19);
        Check.due("isFaulty(0) with the last version", x.isFaulty(0), true);
        x.roll(0, 0, 18);
        Check.due("isFaulty(0) with the one below", x.isFaulty(0), false);
    }

    private static void defectOfASwitchOrNone() {
        Check.indexes("defect(0, n, true)", Scenes::busy, -1, 7, (y, n) -> y.defect(0, n, true));
        Check.indexes("defect(0, n, false)", Scenes::busy, -1, 7, (y, n) -> y.defect(0, n, false));
        for (int control = 0; control < 8; control++) {
            Rotaforge x = new Rotaforge();
            x.defect(0, control, true);
            for (int other = 0; other < 8; other++) {
                if (other != control) {
                    x.turn(0, other, 4);
                }
            }
            Check.due("isFaulty(0) when all others than " + control + " are on", x.isFaulty(0), false);
            x.turn(0, control, 1);
            Check.due("isFaulty(0) when it is on", x.isFaulty(0), true);
        }
    }

    private static void defectWithoutASwitch() {
        for (boolean isOn : new boolean[] {true, false}) {
            Rotaforge x = new Rotaforge();
            x.defect(0, Rotaforge.NONE, isOn);
            for (int level = 0; level <= 4; level += 4) {
                if (level == 4) {
                    for (int control = 0; control < 8; control++) {
                        x.turn(0, control, 4);
                    }
                }
                for (int ring = 0; ring < 4; ring++) {
                    Check.due("isFaulty(" + ring + ") with all at the level " + level, x.isFaulty(ring), true);
                }
            }
        }
        Check.due("told with true as with false", Snapshot.of(Check.played(y -> y.defect(0, -1, true))),
                Snapshot.of(Check.played(y -> y.defect(0, -1, false))));
    }

    private static void defectOnOrNot() {
        Rotaforge on = new Rotaforge();
        Rotaforge off = new Rotaforge();
        on.defect(0, 3, true);
        off.defect(0, 3, false);
        on.turn(0, 3, 2);
        off.turn(0, 3, 2);
        Check.due("where it is on, in the last ring where it is", on.isFaulty(1), true);
        Check.due("where it is on, in the first ring where it is not", on.isFaulty(2), false);
        Check.due("where it is not, in the last ring where it is on", off.isFaulty(1), false);
        Check.due("where it is not, in the first ring where it is not", off.isFaulty(2), true);
        on.need(3, 4, true);
        off.need(3, 4, true);
        Check.due("where it is on, when it is set and not on", on.isFaulty(1), false);
        Check.due("where it is not, when it is set and not on", off.isFaulty(1), true);
    }

    private static void defectReturnsHowMany() {
        Rotaforge x = Check.played(Scenes.versions(20));
        for (int told = 1; told <= 24; told++) {
            Check.due("defect", x.defect(told % 20, told % 9 - 1, told % 2 == 0), told);
        }
        Rotaforge same = new Rotaforge();
        for (int told = 1; told <= 24; told++) {
            Check.due("defect, always the same", same.defect(0, 0, true), told);
        }
    }

    private static void defectsEndWith24() {
        Check.Scenario full = Scenes.versions(2).then(Scenes::twentyFourDefects);
        Rotaforge almost = new Rotaforge();
        for (int i = 0; i < 23; i++) {
            almost.defect(0, 0, true);
        }
        Check.due("defect with 23", almost.defect(0, 1, false), 24);
        Check.due("isFaulty(0) by the last", almost.isFaulty(0), true);
        Check.throwsState("defect with 24, always", full, y -> y.defect(0, Rotaforge.NONE, true));
        Check.throwsState("defect with 24, the same again", full, y -> y.defect(0, 0, true));
        Check.throwsState("defect with 24, of the last switch", full, y -> y.defect(0, 7, false));
        Check.throwsState("defect with 24, of another version", full, y -> y.defect(1, 0, false));
        Rotaforge x = Check.played(full);
        Check.outcome(() -> x.defect(1, Rotaforge.NONE, false));
        Check.outcome(() -> x.defect(1, 0, false));
        x.roll(0, 0, 1);
        Check.due("isFaulty(0) with the other version, the defects of which were refused", x.isFaulty(0), false);
    }

    private static void defectsFirstLine() {
        Check.Scenario full = Scenes.versions(2).then(Scenes::twentyFourDefects);
        Check.throwsIndex("no such version, with 24", full, y -> y.defect(2, 0, true));
        Check.throwsIndex("no such version, with 24", full, y -> y.defect(-1, -1, true));
        Check.throwsIndex("no such switch, with 24", full, y -> y.defect(0, 8, true));
        Check.throwsIndex("no such switch, with 24", full, y -> y.defect(0, -2, true));
    }

    private static void ofNeed() {
        Check.sentence("Promise 4: control: a switch; throws IndexOutOfBoundsException if there is no such switch",
                BoundsOfWhatThereIsTest::needOfASwitch);
        Check.sentence("Promise 4: other: a switch; throws IndexOutOfBoundsException if there is no such switch",
                BoundsOfWhatThereIsTest::needForAnother);
        Check.sentence("Promise 4: whether it needs it from then on, directly",
                BoundsOfWhatThereIsTest::needFromThenOn);
        Check.sentence("Promise 4: Returns how many switches it needs directly then",
                BoundsOfWhatThereIsTest::needReturnsHowMany);
        Check.sentence("Promise 4: Throws IllegalArgumentException if both are the same",
                BoundsOfWhatThereIsTest::needOfTheSame);
        Check.sentence("Promise 4: Throws IllegalStateException if needs is true, and other needs control, directly",
                BoundsOfWhatThereIsTest::needBackDirectly);
        Check.sentence("Promise 4: or by others", BoundsOfWhatThereIsTest::needBackByOthers);
        Check.sentence("Promise 4: the first line of the throws clause decides",
                BoundsOfWhatThereIsTest::needsFirstLine);
    }

    private static void needOfASwitch() {
        Check.indexes("need(n, m, true)", Scenes::nothing, 0, 7, (y, n) -> y.need(n, n == 3 ? 4 : 3, true));
        Check.indexes("need(n, m, false)", Scenes::nothing, 0, 7, (y, n) -> y.need(n, n == 3 ? 4 : 3, false));
    }

    private static void needForAnother() {
        Check.indexes("need(m, n, true)", Scenes::nothing, 0, 7, (y, n) -> y.need(n == 3 ? 4 : 3, n, true));
        Check.indexes("need(m, n, false)", Scenes::nothing, 0, 7, (y, n) -> y.need(n == 3 ? 4 : 3, n, false));
    }

    private static void needFromThenOn() {
        for (int control = 0; control < 8; control += 7) {
            int other = 7 - control;
            Rotaforge x = new Rotaforge();
            x.turn(0, control, 4);
            x.turn(0, other, 2);
            Check.due("isOn ahead of it", x.isOn(control, 2), true);
            x.need(control, other, true);
            Check.due("isOn then, where the other is not on", x.isOn(control, 2), false);
            Check.due("isOn then, where the other is on", x.isOn(control, 1), true);
            x.need(control, other, false);
            Check.due("isOn when it is needed no more", x.isOn(control, 2), true);
        }
    }

    private static void needReturnsHowMany() {
        for (int control = 0; control < 8; control++) {
            Rotaforge x = new Rotaforge();
            Check.due("need(.., .., false) of none", x.need(control, (control + 1) % 8, false), 0);
            for (int count = 1; count <= 7; count++) {
                Check.due("need(.., .., true)", x.need(control, (control + count) % 8, true), count);
                Check.due("the same again", x.need(control, (control + count) % 8, true), count);
            }
            for (int count = 6; count >= 0; count--) {
                Check.due("need(.., .., false)", x.need(control, (control + count + 1) % 8, false), count);
                Check.due("the same again", x.need(control, (control + count + 1) % 8, false), count);
            }
        }
        Rotaforge chain = new Rotaforge();
        chain.need(1, 2, true);
        chain.need(2, 3, true);
        Check.due("need(0, 1, true), and by it 2 and 3", chain.need(0, 1, true), 1);
        Check.due("need(0, 3, true), which it needs by others too", chain.need(0, 3, true), 2);
        Check.due("need(0, 2, false), which it needs by others only", chain.need(0, 2, false), 2);
    }

    private static void needOfTheSame() {
        for (int control = 0; control < 8; control++) {
            int same = control;
            Check.throwsArgument("need(n, n, true)", Scenes::busy, y -> y.need(same, same, true));
            Check.throwsArgument("need(n, n, false)", Scenes::busy, y -> y.need(same, same, false));
        }
    }

    private static void needBackDirectly() {
        Check.Scenario needed = y -> y.need(0, 7, true);
        Check.throwsState("need(7, 0, true)", needed, y -> y.need(7, 0, true));
        Check.due("need(7, 0, false), needs is not true", Check.played(needed).need(7, 0, false), 0);
        Check.due("need(0, 7, true), which stands", Check.played(needed).need(0, 7, true), 1);
        Check.throwsState("need(0, 7, true)", y -> y.need(7, 0, true), y -> y.need(0, 7, true));
        Rotaforge x = Check.played(needed);
        x.need(0, 7, false);
        Check.due("need(7, 0, true) when it is needed no more", x.need(7, 0, true), 1);
        Check.due("need(7, 6, true) beside it", Check.played(needed).need(7, 6, true), 1);
    }

    private static void needBackByOthers() {
        for (int length = 2; length <= 7; length++) {
            int last = length;
            Check.Scenario chain = y -> {
                for (int control = 0; control < last; control++) {
                    y.need(control, control + 1, true);
                }
            };
            Check.throwsState("need back over a chain of " + length, chain, y -> y.need(last, 0, true));
            Rotaforge x = Check.played(chain);
            Check.due("needs is not true", x.need(last, 0, false), 0);
            x.need(last / 2, last / 2 + 1, false);
            Check.due("when the chain is broken in its middle", x.need(last, 0, true), 1);
        }
        Check.Scenario fork = y -> {
            y.need(0, 1, true);
            y.need(0, 2, true);
            y.need(1, 7, true);
            y.need(2, 7, true);
        };
        Check.throwsState("need back over two ways", fork, y -> y.need(7, 0, true));
        Rotaforge x = Check.played(fork);
        x.need(1, 7, false);
        Check.due("need back over the way that is left", Check.outcome(() -> x.need(7, 0, true)),
                "throws.IllegalStateException");
        x.need(0, 2, false);
        Check.due("need back over no way", x.need(7, 0, true), 1);
    }

    private static void needsFirstLine() {
        for (int number : Check.outside(0, 7)) {
            Check.throwsIndex("both are the same, and no switch", Scenes::busy, y -> y.need(number, number, true));
            Check.throwsIndex("both are the same, and no switch", Scenes::busy, y -> y.need(number, number, false));
        }
    }
}

/** Promises 1 to 4: a new object, build, defect, need. */
public final class WhatThereIsTest {
    public static void main(String[] args) {
        newObject();
        newObjectsAreApart();
        buildNumbersVersions();
        defectIsCounted();
        defectShows();
        defectIsRefused();
        needIsCounted();
        needIsFollowed();
        needIsFollowedDownwards();
        needIsRefused();
        Check.end("WhatThereIsTest");
    }

    private static void newObject() {
        Rotaforge x = new Rotaforge();
        Check.due("NONE", Rotaforge.NONE, -1);
        Check.due("time", x.time(), 0);
        Check.due("changes", x.changes(), 0);
        Check.due("incidents", x.incidents(), 0);
        Check.due("versions", x.versions(), 1);
        Check.due("missed", x.missed(), 0);
        Check.due("onCall", x.onCall(), 0);
        Check.due("holder(0)", x.holder(0), 0);
        Check.due("holder(1)", x.holder(1), 1);
        for (int p = 0; p < 6; p++) {
            Check.due("blots(" + p + ")", x.blots(p), 0);
            Check.due("rests(" + p + ")", x.rests(p), false);
            Check.due("calls by day of " + p, x.calls(p, false), 0);
            Check.due("calls at night of " + p, x.calls(p, true), 0);
        }
        for (int r = 0; r < 4; r++) {
            Check.due("version(" + r + ")", x.version(r), 0);
            Check.due("isFaulty(" + r + ")", x.isFaulty(r), false);
            Check.due("openIn(" + r + ")", x.openIn(r), -1);
            Check.due("trace(" + r + ")", x.trace(r), -1);
            Check.due("rollable(" + r + ")", x.rollable(r), -1);
        }
        for (int s = 0; s < 8; s++) {
            Check.due("level(" + s + ")", x.level(s), 0);
            Check.due("isOn(" + s + ", 0)", x.isOn(s, 0), false);
        }
    }

    private static void newObjectsAreApart() {
        Rotaforge x = new Rotaforge();
        Rotaforge y = new Rotaforge();
        x.build();
        x.defect(0, Rotaforge.NONE, false);
        x.turn(2, 3, 4);
        x.takeOver(5);
        x.pass(20);
        Check.due("an object beside a used one", Snapshot.of(y), Snapshot.of(new Rotaforge()));
    }

    private static void buildNumbersVersions() {
        Rotaforge x = new Rotaforge();
        for (int v = 1; v < 20; v++) {
            Check.due("build", x.build(), v);
            Check.due("versions", x.versions(), v + 1);
        }
        Check.due("build with 20", Check.outcome(() -> x.build()), "throws.IllegalStateException");
        Check.due("versions", x.versions(), 20);
        Check.throwsState("build with 20", y -> {
            for (int v = 1; v < 20; v++) {
                y.build();
            }
        }, y -> y.build());
    }

    private static void defectIsCounted() {
        Rotaforge x = new Rotaforge();
        Check.due("the first defect", x.defect(0, 7, true), 1);
        Check.due("the same again", x.defect(0, 7, true), 2);
        x.build();
        Check.due("one of another version", x.defect(1, -1, false), 3);
        for (int i = 4; i <= 24; i++) {
            Check.due("defect " + i, x.defect(1, 0, false), i);
        }
        Check.due("a 25th", Check.outcome(() -> x.defect(0, 0, true)), "throws.IllegalStateException");
    }

    private static void defectShows() {
        Rotaforge always = Check.played(y -> y.defect(0, -1, false));
        Check.due("always, told with false", always.isFaulty(2), true);
        Rotaforge too = Check.played(y -> y.defect(0, -1, true));
        Check.due("always, told with true", too.isFaulty(2), true);
        Rotaforge on = Check.played(y -> y.defect(0, 7, true));
        Check.due("where it is on, and it is not", on.isFaulty(1), false);
        on.turn(0, 7, 2);
        Check.due("where it is on, and it is", on.isFaulty(1), true);
        Check.due("where it is on, in a ring where it is not", on.isFaulty(2), false);
        Rotaforge off = Check.played(y -> y.defect(0, 0, false));
        Check.due("where it is not on, and it is not", off.isFaulty(1), true);
        off.turn(0, 0, 2);
        Check.due("where it is not on, and it is", off.isFaulty(1), false);
        Check.due("where it is not on, in another ring", off.isFaulty(2), true);
        Rotaforge other = new Rotaforge();
        other.build();
        other.defect(1, -1, true);
        Check.due("of a version that no ring runs", other.isFaulty(0), false);
        other.roll(0, 0, 1);
        Check.due("of the version that it runs", other.isFaulty(0), true);
        Check.due("of a version that another ring runs", other.isFaulty(1), false);
    }

    private static void defectIsRefused() {
        Check.Scenario start = y -> y.build();
        Check.throwsIndex("defect(2, 0, true)", start, y -> y.defect(2, 0, true));
        Check.throwsIndex("defect(-1, 0, true)", start, y -> y.defect(-1, 0, true));
        Check.throwsIndex("defect(MAX, 0, true)", start, y -> y.defect(Integer.MAX_VALUE, 0, true));
        Check.throwsIndex("defect(0, 8, true)", start, y -> y.defect(0, 8, true));
        Check.throwsIndex("defect(0, -2, true)", start, y -> y.defect(0, -2, true));
        Check.throwsIndex("defect(0, MIN, true)", start, y -> y.defect(0, Integer.MIN_VALUE, true));
        Check.Scenario full = Scenes::twentyFourDefects;
        Check.throwsState("defect with 24", full, y -> y.defect(0, -1, true));
        Check.throwsIndex("defect of no version with 24", full, y -> y.defect(1, -1, true));
        Check.throwsIndex("defect of no switch with 24", full, y -> y.defect(0, 8, true));
    }

    private static void needIsCounted() {
        Rotaforge x = new Rotaforge();
        Check.due("need(0, 1, true)", x.need(0, 1, true), 1);
        Check.due("need(0, 1, true) again", x.need(0, 1, true), 1);
        Check.due("need(0, 7, true)", x.need(0, 7, true), 2);
        Check.due("need(1, 7, true)", x.need(1, 7, true), 1);
        Check.due("need(0, 5, false), not needed", x.need(0, 5, false), 2);
        Check.due("need(0, 1, false)", x.need(0, 1, false), 1);
        Check.due("need(0, 7, false)", x.need(0, 7, false), 0);
        for (int s = 1; s < 8; s++) {
            Check.due("need(0, " + s + ", true)", x.need(0, s, true), s);
        }
        Check.due("need(1, 0, false), against a need", x.need(1, 0, false), 1);
    }

    private static void needIsFollowed() {
        Rotaforge x = new Rotaforge();
        for (int s = 0; s < 7; s++) {
            x.need(s, s + 1, true);
        }
        for (int s = 0; s < 7; s++) {
            x.turn(0, s, 4);
        }
        Check.due("0 without the end of its chain", x.isOn(0, 0), false);
        x.turn(0, 7, 1);
        Check.due("0 with its whole chain", x.isOn(0, 0), true);
        Check.due("0 where the end is not set", x.isOn(0, 1), false);
        x.need(6, 7, false);
        Check.due("0 when the end is needed no more", x.isOn(0, 1), true);
        Check.due("now 7 can need 0", x.need(7, 0, true), 1);
        Check.due("6 without 7", x.isOn(6, 1), true);
        Check.due("7 where it is not set", x.isOn(7, 1), false);
    }

    private static void needIsFollowedDownwards() {
        Rotaforge x = new Rotaforge();
        for (int s = 1; s < 8; s++) {
            x.turn(0, s, 4);
            x.need(s, s - 1, true);
        }
        Check.due("7 without the end of its chain", x.isOn(7, 0), false);
        Check.due("need(0, 7, true) against the chain", Check.outcome(() -> x.need(0, 7, true)),
                "throws.IllegalStateException");
        x.turn(0, 0, 1);
        Check.due("7 with its whole chain", x.isOn(7, 0), true);
        Check.due("7 where the end is not set", x.isOn(7, 1), false);
        x.need(1, 0, false);
        Check.due("7 when the end is needed no more", x.isOn(7, 1), true);
    }

    private static void needIsRefused() {
        Check.Scenario chain = y -> {
            y.need(0, 1, true);
            y.need(1, 2, true);
            y.need(2, 3, true);
            y.turn(3, 0, 4);
        };
        Check.throwsIndex("need(8, 0, true)", chain, y -> y.need(8, 0, true));
        Check.throwsIndex("need(-1, 0, true)", chain, y -> y.need(-1, 0, true));
        Check.throwsIndex("need(0, 8, false)", chain, y -> y.need(0, 8, false));
        Check.throwsIndex("need(0, -1, true)", chain, y -> y.need(0, -1, true));
        Check.throwsIndex("need(8, 8, true), both the same", chain, y -> y.need(8, 8, true));
        Check.throwsIndex("need(-1, -1, false), both the same", chain, y -> y.need(-1, -1, false));
        Check.throwsArgument("need(0, 0, true)", chain, y -> y.need(0, 0, true));
        Check.throwsArgument("need(7, 7, false)", chain, y -> y.need(7, 7, false));
        Check.throwsState("need(1, 0, true), needed directly", chain, y -> y.need(1, 0, true));
        Check.throwsState("need(2, 0, true), needed by another", chain, y -> y.need(2, 0, true));
        Check.throwsState("need(3, 0, true), needed by two others", chain, y -> y.need(3, 0, true));
        Rotaforge x = Check.played(chain);
        Check.due("need(3, 0, false)", x.need(3, 0, false), 0);
        Check.due("need(0, 3, true), a second way", x.need(0, 3, true), 2);
        x.need(1, 2, false);
        Check.due("the second way stays", Check.outcome(() -> x.need(3, 0, true)), "throws.IllegalStateException");
        x.need(0, 3, false);
        Check.due("need(3, 0, true), needed no more", x.need(3, 0, true), 1);
    }
}

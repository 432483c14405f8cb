/** Promises 27 to 29: heals, trace, traceByTrying. */
public final class TracesTest {
    public static void main(String[] args) {
        aTurnHeals();
        aRollHeals();
        twoCausesHealNothing();
        onlyTheLatestHeals();
        theLatestOfSeveralIsTraced();
        aSwitchTurnedOffIsTraced();
        needsAreFollowed();
        tracesAreOfNow();
        wrongNumbers();
        Check.end("TracesTest");
    }

    private static void traced(String what, Rotaforge x, int ring, int want) {
        Check.due("trace(" + ring + "), " + what, x.trace(ring), want);
        Check.due("traceByTrying(" + ring + "), " + what, x.traceByTrying(ring), want);
    }

    private static void aTurnHeals() {
        Rotaforge x = new Rotaforge();
        x.defect(0, 2, true);
        x.turn(0, 1, 4);
        x.turn(0, 2, 2);
        Check.due("heals(1, 0)", x.heals(1, 0), true);
        Check.due("heals(1, 1)", x.heals(1, 1), true);
        Check.due("heals(1, 2), which is not faulty", x.heals(1, 2), false);
        Check.due("heals(0, 0), of another switch", x.heals(0, 0), false);
        traced("a turn", x, 1, 1);
        traced("not faulty", x, 2, -1);
    }

    private static void aRollHeals() {
        Rotaforge x = new Rotaforge();
        x.build();
        x.roll(0, 0, 1);
        x.pass(2);
        x.roll(0, 1, 1);
        x.defect(1, -1, true);
        Check.due("heals(0, 0)", x.heals(0, 0), true);
        Check.due("heals(0, 1), of another ring", x.heals(0, 1), false);
        Check.due("heals(1, 1)", x.heals(1, 1), true);
        Check.due("heals(1, 0), of another ring", x.heals(1, 0), false);
        traced("a roll", x, 0, 0);
        traced("a roll", x, 1, 1);
        traced("not faulty", x, 2, -1);
    }

    private static void twoCausesHealNothing() {
        Rotaforge x = new Rotaforge();
        x.defect(0, 0, true);
        x.defect(0, 1, true);
        x.turn(0, 0, 2);
        x.turn(0, 1, 1);
        traced("by two switches", x, 0, -1);
        traced("by one switch", x, 1, 0);
        Check.due("heals(0, 0)", x.heals(0, 0), false);
        Check.due("heals(1, 0)", x.heals(1, 0), false);
        Rotaforge first = new Rotaforge();
        first.defect(0, -1, true);
        traced("without changes", first, 0, -1);
        first.turn(0, 0, 4);
        traced("always", first, 0, -1);
    }

    private static void onlyTheLatestHeals() {
        Rotaforge x = new Rotaforge();
        x.defect(0, 0, true);
        x.turn(0, 0, 1);
        traced("the first turn", x, 0, 0);
        x.turn(0, 0, 2);
        Check.due("heals(0, 0), not the latest", x.heals(0, 0), false);
        Check.due("heals(1, 0), on without it too", x.heals(1, 0), false);
        Check.due("heals(1, 1)", x.heals(1, 1), true);
        traced("on since an earlier turn", x, 0, -1);
        traced("on since the latest", x, 1, 1);
        x.turn(0, 0, 0);
        x.turn(0, 0, 3);
        traced("on again", x, 0, 3);
        Rotaforge y = new Rotaforge();
        y.build();
        y.build();
        y.defect(1, -1, true);
        y.defect(2, -1, true);
        y.roll(0, 0, 1);
        y.roll(0, 0, 2);
        traced("without it the version ahead is as bad", y, 0, -1);
        Check.due("heals(0, 0), not the latest", y.heals(0, 0), false);
    }

    private static void theLatestOfSeveralIsTraced() {
        Rotaforge x = new Rotaforge();
        x.build();
        x.defect(1, 0, true);
        x.need(0, 1, true);
        x.turn(0, 1, 4);
        x.turn(1, 0, 4);
        x.roll(2, 0, 1);
        x.turn(3, 5, 4);
        traced("version, switch and need; the latest is the roll", x, 0, 2);
        x.turn(3, 0, 0);
        x.turn(3, 0, 2);
        traced("the latest is a turn", x, 0, 5);
        x.turn(4, 1, 0);
        x.turn(4, 1, 1);
        traced("the latest is of the need", x, 0, 7);
        for (int change = 0; change < 8; change++) {
            boolean due = change == 2 || change == 5 || change == 7;
            Check.due("heals(" + change + ", 0)", x.heals(change, 0), due);
        }
    }

    private static void aSwitchTurnedOffIsTraced() {
        Rotaforge x = new Rotaforge();
        x.turn(0, 3, 4);
        x.defect(0, 3, false);
        traced("where it is on all is well", x, 0, -1);
        x.turn(0, 3, 2);
        traced("still on", x, 1, -1);
        traced("turned down", x, 2, 1);
        traced("turned down", x, 3, 1);
        Check.due("heals(1, 3)", x.heals(1, 3), true);
    }

    private static void needsAreFollowed() {
        Rotaforge x = new Rotaforge();
        x.defect(0, 0, false);
        x.turn(0, 0, 4);
        x.turn(0, 7, 4);
        x.need(0, 3, true);
        x.need(3, 7, true);
        x.turn(0, 3, 4);
        traced("on by its needs", x, 0, -1);
        x.revert(5, 1);
        traced("off by the need of its need", x, 0, 3);
        x.need(3, 7, false);
        traced("needed no more", x, 0, -1);
        Check.due("heals(3, 0)", x.heals(3, 0), false);
    }

    private static void tracesAreOfNow() {
        Rotaforge x = new Rotaforge();
        x.turn(0, 0, 4);
        x.defect(0, 0, true);
        traced("a defect told behind the change", x, 3, 0);
        x.pass(1);
        Check.due("tracedTo(0)", x.tracedTo(0), 0);
        x.defect(0, -1, true);
        traced("always now", x, 3, -1);
        Check.due("heals(0, 3) now", x.heals(0, 3), false);
        Check.due("tracedTo(0), of then", x.tracedTo(0), 0);
    }

    private static void wrongNumbers() {
        Check.Scenario one = y -> {
            y.defect(0, 0, true);
            y.turn(0, 0, 4);
        };
        for (int n : new int[] {-1, 4, Integer.MAX_VALUE, Integer.MIN_VALUE}) {
            Check.throwsIndex("trace(" + n + ")", one, y -> y.trace(n));
            Check.throwsIndex("traceByTrying(" + n + ")", one, y -> y.traceByTrying(n));
            Check.throwsIndex("heals(0, " + n + ")", one, y -> y.heals(0, n));
            Check.throwsIndex("heals(" + n + ", 0)", one, y -> y.heals(n, 0));
        }
        Check.throwsIndex("heals(1, 0)", one, y -> y.heals(1, 0));
        Check.throwsIndex("heals(0, 0) of none", Scenes::nothing, y -> y.heals(0, 0));
    }
}

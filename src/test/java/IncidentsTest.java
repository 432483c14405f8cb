/** Promises 30 to 35: incidents, openIn, openedAt, closedAt, tracedTo, firstCalled. */
public final class IncidentsTest {
    public static void main(String[] args) {
        incidentsOpenAndClose();
        incidentsWaitForAHalf();
        incidentsAreTraced();
        whoIsCalledFirst();
        aMissedCall();
        twoHundredIncidents();
        theLimitMayFallAmongRings();
        wrongNumbers();
        Check.end("IncidentsTest");
    }

    private static void incidentsOpenAndClose() {
        Rotaforge x = new Rotaforge();
        x.defect(0, 0, true);
        x.turn(3, 0, 2);
        x.pass(4);
        Check.due("incidents", x.incidents(), 2);
        Check.due("openIn(0)", x.openIn(0), 0);
        Check.due("openIn(1)", x.openIn(1), 1);
        Check.due("openIn(2)", x.openIn(2), -1);
        Check.due("openedAt(0)", x.openedAt(0), 10);
        Check.due("openedAt(1)", x.openedAt(1), 11);
        Check.due("closedAt(0), open", x.closedAt(0), -1);
        x.turn(5, 0, 1);
        x.pass(3);
        Check.due("closedAt(0), still open", x.closedAt(0), -1);
        Check.due("closedAt(1)", x.closedAt(1), 5);
        Check.due("openIn(1)", x.openIn(1), -1);
        x.turn(5, 0, 4);
        x.pass(1);
        Check.due("incidents", x.incidents(), 5);
        Check.due("openIn(0), the same", x.openIn(0), 0);
        Check.due("openIn(1), a new one", x.openIn(1), 2);
        Check.due("openIn(3)", x.openIn(3), 4);
        Check.due("openedAt(2)", x.openedAt(2), 81);
        Check.due("openedAt(4)", x.openedAt(4), 83);
        Check.due("closedAt(1), as it was", x.closedAt(1), 5);
    }

    private static void incidentsWaitForAHalf() {
        Rotaforge x = new Rotaforge();
        x.defect(0, 0, true);
        x.turn(3, 0, 4);
        Check.due("incidents ahead of the half", x.incidents(), 0);
        x.turn(3, 0, 0);
        Check.due("pass(1), mended in the same half", x.pass(1), 0);
        x.turn(3, 0, 4);
        Check.due("pass(1)", x.pass(1), 4);
        x.turn(3, 0, 0);
        Check.due("openIn(0), mended and still open", x.openIn(0), 0);
        x.turn(3, 0, 4);
        Check.due("pass(1), faulty again in the same half", x.pass(1), 0);
        Check.due("closedAt(0)", x.closedAt(0), -1);
    }

    private static void incidentsAreTraced() {
        Rotaforge x = new Rotaforge();
        x.build();
        x.defect(1, -1, true);
        x.defect(0, 0, true);
        x.roll(4, 0, 1);
        x.pass(1);
        x.turn(5, 0, 3);
        x.pass(1);
        Check.due("tracedTo(0), the roll", x.tracedTo(0), 0);
        Check.due("tracedTo(1), the turn", x.tracedTo(1), 1);
        Check.due("tracedTo(2), the turn", x.tracedTo(2), 1);
        Check.due("blots(4)", x.blots(4), 1);
        Check.due("blots(5)", x.blots(5), 2);
        x.pass(5);
        Check.due("blots(5), only when it opens", x.blots(5), 2);
        Rotaforge none = new Rotaforge();
        none.defect(0, -1, true);
        none.turn(2, 0, 4);
        none.pass(1);
        Check.due("tracedTo(0), to none", none.tracedTo(0), -1);
        Check.due("blots(2)", none.blots(2), 0);
        Rotaforge reverted = new Rotaforge();
        reverted.defect(0, 0, false);
        reverted.turn(1, 0, 4);
        reverted.revert(2, 0);
        reverted.pass(1);
        Check.due("tracedTo(0), the revert", reverted.tracedTo(0), 1);
        Check.due("blots(2), who reverted", reverted.blots(2), 4);
        Check.due("blots(1), whose change was reverted", reverted.blots(1), 0);
    }

    private static void whoIsCalledFirst() {
        Rotaforge x = new Rotaforge();
        x.defect(0, 0, true);
        x.turn(3, 0, 1);
        x.pass(1);
        x.turn(3, 0, 3);
        x.pass(1);
        Check.due("firstCalled(0)", x.firstCalled(0), 0);
        Check.due("firstCalled(1), the holder rests", x.firstCalled(1), 3);
        Check.due("firstCalled(2), in the same half", x.firstCalled(2), 3);
        Check.due("blots(3) count in this half already", x.blots(3), 3);
        x.pass(2);
        Check.due("firstCalled(0) stays", x.firstCalled(0), 0);
        Check.due("firstCalled(1) stays", x.firstCalled(1), 3);
    }

    private static void aMissedCall() {
        Rotaforge x = new Rotaforge();
        x.defect(0, 0, true);
        x.turn(0, 0, 1);
        x.pass(10);
        x.turn(5, 0, 2);
        x.pass(1);
        Check.due("firstCalled(1)", x.firstCalled(1), 5);
        x.defect(0, 3, false);
        x.pass(1);
        Check.due("onCall", x.onCall(), -1);
        Check.due("missed, once for two new incidents", x.missed(), 1);
        Check.due("firstCalled(2), missed", x.firstCalled(2), -1);
        Check.due("firstCalled(3), missed", x.firstCalled(3), -1);
        x.pass(2);
        Check.due("firstCalled(2), still", x.firstCalled(2), -1);
        Check.due("missed", x.missed(), 2);
    }

    private static void twoHundredIncidents() {
        Rotaforge x = new Rotaforge();
        x.defect(0, 0, true);
        x.pass(1);
        Scenes.rounds(x, 50, 4);
        Check.due("incidents", x.incidents(), 200);
        Check.due("missed", x.missed(), 0);
        Check.due("openedAt(199)", x.openedAt(199), 1003);
        Check.due("closedAt(199)", x.closedAt(199), 101);
        int blots = x.blots(5);
        x.turn(5, 0, 4);
        Check.due("pass(2) with 200", x.pass(2), 0);
        Check.due("incidents", x.incidents(), 200);
        Check.due("isFaulty(0)", x.isFaulty(0), true);
        Check.due("openIn(0)", x.openIn(0), -1);
        Check.due("blots(5)", x.blots(5), blots);
        int calls = 0;
        for (int p = 0; p < 6; p++) {
            calls += x.calls(p, false) + x.calls(p, true);
        }
        Check.due("calls of all, none without an open incident", calls, 50);
        Check.due("openedAt(200)", Check.outcome(() -> x.openedAt(200)), "throws.IndexOutOfBoundsException");
    }

    private static void theLimitMayFallAmongRings() {
        Rotaforge x = new Rotaforge();
        x.defect(0, 0, true);
        x.pass(1);
        Scenes.rounds(x, 49, 4);
        Scenes.rounds(x, 1, 2);
        Check.due("incidents", x.incidents(), 198);
        x.turn(5, 0, 4);
        Check.due("pass(1) with 198", x.pass(1), 2);
        Check.due("openIn(0)", x.openIn(0), 198);
        Check.due("openIn(1)", x.openIn(1), 199);
        Check.due("openIn(2)", x.openIn(2), -1);
        Check.due("pass(1) with 200", x.pass(1), 0);
    }

    private static void wrongNumbers() {
        Check.Scenario two = y -> {
            y.defect(0, 0, true);
            y.turn(0, 0, 2);
            y.pass(1);
        };
        for (int n : new int[] {-1, 2, Integer.MAX_VALUE, Integer.MIN_VALUE}) {
            Check.throwsIndex("openedAt(" + n + ")", two, y -> y.openedAt(n));
            Check.throwsIndex("closedAt(" + n + ")", two, y -> y.closedAt(n));
            Check.throwsIndex("tracedTo(" + n + ")", two, y -> y.tracedTo(n));
            Check.throwsIndex("firstCalled(" + n + ")", two, y -> y.firstCalled(n));
        }
        for (int n : new int[] {-1, 4, Integer.MAX_VALUE, Integer.MIN_VALUE}) {
            Check.throwsIndex("openIn(" + n + ")", two, y -> y.openIn(n));
        }
        Check.throwsIndex("openedAt(0) of none", Scenes::nothing, y -> y.openedAt(0));
    }
}

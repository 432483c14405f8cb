/** Promises 8 to 17: takeOver, pass, time, holder, near, blots, rests, onCall, calls, missed. */
public final class WeeksTest {
    public static void main(String[] args) {
        takeOverGivesTheNextWeek();
        takeOverIsRefused();
        passMovesTheTime();
        passIsRefused();
        holdersAreChosen();
        holdersFollowBlots();
        holderIsRefused();
        nearIsToTheWeekAfterTheNext();
        blotsBeginAnewWithAWeek();
        restAfterACallAtNight();
        onCallWithoutTheHolder();
        callsAreCounted();
        personsAreAsked();
        Check.end("WeeksTest");
    }

    private static void takeOverGivesTheNextWeek() {
        Rotaforge x = new Rotaforge();
        Check.due("takeOver(3)", x.takeOver(3), 1);
        Check.due("holder(1)", x.holder(1), 3);
        Check.due("takeOver(1), back", x.takeOver(1), 3);
        Check.due("takeOver(5)", x.takeOver(5), 1);
        x.pass(14);
        Check.due("onCall", x.onCall(), 5);
        Check.due("takeOver(0) in the next week", x.takeOver(0), 1);
        Check.due("holder(2)", x.holder(2), 0);
        Check.due("holder(1) stays", x.holder(1), 5);
        Rotaforge last = new Rotaforge();
        Scenes.passAll(last, 560);
        int former = last.holder(41);
        int free = 0;
        while (free == last.holder(40) || free == former) {
            free++;
        }
        Check.due("takeOver at the end", last.takeOver(free), former);
        Check.due("holder(41)", last.holder(41), free);
    }

    private static void takeOverIsRefused() {
        Check.Scenario start = y -> y.takeOver(4);
        Check.throwsIndex("takeOver(6)", start, y -> y.takeOver(6));
        Check.throwsIndex("takeOver(-1)", start, y -> y.takeOver(-1));
        Check.throwsState("takeOver(0) by the holder of this week", start, y -> y.takeOver(0));
        Check.throwsState("takeOver(4) by the holder of the next one", start, y -> y.takeOver(4));
        Rotaforge resting = Check.played(Scenes::personZeroRests);
        resting.pass(1);
        resting.pass(1);
        resting.pass(1);
        Check.due("the person 2 rests soon", resting.pass(1), 0);
        Check.due("the person 2 rests", resting.rests(2), true);
        Check.due("takeOver by one who rests", resting.takeOver(2), 1);
    }

    private static void passMovesTheTime() {
        Rotaforge x = new Rotaforge();
        Check.due("pass(1)", x.pass(1), 0);
        Check.due("time", x.time(), 1);
        Check.due("pass(28)", x.pass(28), 0);
        Check.due("time", x.time(), 29);
        x.defect(0, 0, true);
        x.turn(0, 0, 3);
        Check.due("pass(5) with three faulty rings", x.pass(5), 3);
        Check.due("pass(5) again", x.pass(5), 0);
        x.turn(5, 0, 4);
        Check.due("pass(2) with one more", x.pass(2), 1);
        Check.due("time", x.time(), 41);
    }

    private static void passIsRefused() {
        Check.Scenario start = y -> y.pass(3);
        Check.throwsArgument("pass(0)", start, y -> y.pass(0));
        Check.throwsArgument("pass(29)", start, y -> y.pass(29));
        Check.throwsArgument("pass(-1)", start, y -> y.pass(-1));
        Check.throwsArgument("pass(MAX)", start, y -> y.pass(Integer.MAX_VALUE));
        Check.throwsArgument("pass(MIN)", start, y -> y.pass(Integer.MIN_VALUE));
        Check.Scenario nearlyLast = y -> Scenes.passAll(y, 559);
        Check.throwsState("pass(2) at 559", nearlyLast, y -> y.pass(2));
        Check.throwsState("pass(28) at 559", nearlyLast, y -> y.pass(28));
        Rotaforge x = Check.played(nearlyLast);
        x.pass(1);
        Check.due("time at the end", x.time(), 560);
        Check.due("pass(1) at the end", Check.outcome(() -> x.pass(1)), "throws.IllegalStateException");
        Check.due("pass(29) at the end", Check.outcome(() -> x.pass(29)), "throws.IllegalArgumentException");
        Check.due("pass(0) at the end", Check.outcome(() -> x.pass(0)), "throws.IllegalArgumentException");
        Check.due("time still", x.time(), 560);
    }

    private static void holdersAreChosen() {
        Rotaforge x = new Rotaforge();
        Scenes.passAll(x, 560);
        for (int week = 0; week <= 41; week++) {
            Check.due("holder(" + week + ") without blots", x.holder(week), week % 6);
        }
        Rotaforge y = new Rotaforge();
        y.takeOver(5);
        y.pass(13);
        Check.due("holder(2) ahead of week 1", Check.outcome(() -> y.holder(2)), "throws.IndexOutOfBoundsException");
        y.pass(1);
        Check.due("holder(2), of several the lowest", y.holder(2), 1);
    }

    private static void holdersFollowBlots() {
        Rotaforge x = new Rotaforge();
        x.defect(0, 0, true);
        x.turn(3, 0, 1);
        x.pass(1);
        Check.due("blots(3)", x.blots(3), 1);
        x.pass(13);
        Check.due("holder(2), who has a blot", x.holder(2), 3);
        Check.due("blots(3) are kept until the week begins", x.blots(3), 1);
        x.pass(14);
        Check.due("blots(3) when it begins", x.blots(3), 0);
        Rotaforge own = new Rotaforge();
        own.defect(0, 0, true);
        own.turn(1, 0, 4);
        own.pass(1);
        Check.due("blots(1)", own.blots(1), 4);
        own.pass(13);
        Check.due("blots(1) when the own week begins", own.blots(1), 0);
        Check.due("holder(2)", own.holder(2), 2);
        Rotaforge again = new Rotaforge();
        again.turn(1, 0, 4);
        again.pass(14);
        again.defect(0, 0, true);
        again.pass(13);
        Check.due("blots(1), from the own week", again.blots(1), 4);
        Check.due("holder(2), chosen ahead of the blots", again.holder(2), 2);
        again.pass(1);
        Check.due("holder(3): 3 + 1 by weeks against 3 - 1 + 4", again.holder(3), 1);
    }

    private static void holderIsRefused() {
        Check.throwsIndex("holder(-1)", Scenes::nothing, y -> y.holder(-1));
        Check.throwsIndex("holder(2)", Scenes::nothing, y -> y.holder(2));
        Check.throwsIndex("holder(MAX)", Scenes::nothing, y -> y.holder(Integer.MAX_VALUE));
        Check.throwsIndex("holder(MIN)", Scenes::nothing, y -> y.holder(Integer.MIN_VALUE));
        Check.throwsIndex("holder(42) at the end", y -> Scenes.passAll(y, 560), y -> y.holder(42));
    }

    private static void nearIsToTheWeekAfterTheNext() {
        Rotaforge x = new Rotaforge();
        Check.due("near(0)", x.near(0), 2);
        Check.due("near(1)", x.near(1), 1);
        Check.due("near(2)", x.near(2), 3);
        x.takeOver(2);
        Check.due("near(1), who lost the week", x.near(1), 3);
        Check.due("near(2), who took it", x.near(2), 1);
        x.pass(14);
        Check.due("near(0) in week 1", x.near(0), 3);
        Check.due("near(1), the holder of week 2", x.near(1), 1);
        Check.due("near(2), the holder of week 1", x.near(2), 2);
        Check.due("near(5), never a holder", x.near(5), 4);
        x.defect(0, 0, true);
        x.turn(5, 0, 4);
        x.turn(2, 1, 4);
        x.pass(1);
        Check.due("near(5) with four blots", x.near(5), 8);
        Rotaforge last = new Rotaforge();
        Scenes.passAll(last, 560);
        Check.due("near at the end", last.near(0), 6);
        Check.due("near at the end of the holder of week 41", last.near(5), 1);
    }

    private static void blotsBeginAnewWithAWeek() {
        Rotaforge x = new Rotaforge();
        x.defect(0, 0, true);
        x.turn(0, 0, 2);
        x.pass(1);
        Check.due("blots(0), a blot for each incident", x.blots(0), 2);
        Check.due("blots(1)", x.blots(1), 0);
        x.pass(13);
        Check.due("blots(0) when another's week begins", x.blots(0), 2);
        Rotaforge first = new Rotaforge();
        first.defect(0, 0, true);
        first.turn(1, 0, 2);
        first.pass(1);
        first.turn(1, 0, 0);
        first.pass(12);
        Check.due("blots(1) ahead of the week", first.blots(1), 2);
        first.turn(2, 0, 4);
        first.pass(1);
        Check.due("blots(1) when the week begins", first.blots(1), 0);
        Check.due("blots(2), given in its first half", first.blots(2), 4);
        Rotaforge inFirstHalf = new Rotaforge();
        inFirstHalf.defect(0, 0, true);
        inFirstHalf.pass(13);
        inFirstHalf.turn(1, 0, 3);
        inFirstHalf.pass(1);
        Check.due("blots(1), of the holder, given behind the beginning", inFirstHalf.blots(1), 3);
        Check.due("holder(2), chosen ahead of them", inFirstHalf.holder(2), 2);
    }

    private static void restAfterACallAtNight() {
        Rotaforge x = new Rotaforge();
        x.defect(0, -1, true);
        x.pass(1);
        Check.due("rests(0) in the half of the call", x.rests(0), false);
        x.pass(1);
        Check.due("rests(0) in the next half", x.rests(0), true);
        Check.due("rests(1), called by day", x.rests(1), false);
        x.pass(1);
        Check.due("rests(1) in the half of the call at night", x.rests(1), false);
        x.pass(10);
        Check.due("rests(0) in the twelfth half", x.rests(0), true);
        x.pass(1);
        Check.due("rests(0) in the thirteenth half", x.rests(0), false);
        Check.due("rests(1) in the eleventh half", x.rests(1), true);
        Rotaforge day = new Rotaforge();
        day.pass(1);
        day.defect(0, 0, true);
        day.turn(3, 0, 1);
        day.pass(1);
        day.revert(3, 0);
        day.pass(1);
        Check.due("calls of 0 by day", day.calls(0, false), 1);
        Check.due("rests(0) after a call by day", day.rests(0), false);
    }

    private static void onCallWithoutTheHolder() {
        Rotaforge x = new Rotaforge();
        Check.due("onCall, the holder", x.onCall(), 0);
        x.defect(0, -1, true);
        x.pass(1);
        Check.due("onCall in the half of the call", x.onCall(), 0);
        int[] due = {1, 1, 2, 2, 3, 3, 4, 4, 5, 5, -1, -1, 0, 0, 1, 1};
        for (int i = 0; i < due.length; i++) {
            x.pass(1);
            Check.due("onCall at " + x.time(), x.onCall(), due[i]);
        }
        Check.due("missed", x.missed(), 2);
        Rotaforge y = new Rotaforge();
        y.defect(0, 0, true);
        y.turn(5, 0, 1);
        y.turn(3, 1, 4);
        y.pass(1);
        y.pass(1);
        Check.due("onCall, the one with the most blots", y.onCall(), 5);
        y.revert(5, 0);
        y.pass(1);
        y.turn(3, 0, 1);
        y.pass(1);
        Check.due("blots(3)", y.blots(3), 1);
        Check.due("blots(5)", y.blots(5), 1);
        Check.due("onCall, of several the lowest", y.onCall(), 3);
    }

    private static void callsAreCounted() {
        Rotaforge x = new Rotaforge();
        x.defect(0, -1, true);
        x.pass(14);
        int[] days = {1, 1, 1, 1, 1, 1};
        for (int p = 0; p < 6; p++) {
            Check.due("calls by day of " + p, x.calls(p, false), days[p]);
            Check.due("calls at night of " + p, x.calls(p, true), 1);
        }
        Check.due("missed, at 12 and 13", x.missed(), 2);
        x.pass(1);
        Check.due("calls at night of 0, again", x.calls(0, true), 2);
        Rotaforge quiet = new Rotaforge();
        quiet.pass(28);
        Check.due("calls without an incident", quiet.calls(0, false) + quiet.calls(0, true), 0);
        Rotaforge closed = new Rotaforge();
        closed.defect(0, 0, true);
        closed.pass(1);
        closed.turn(1, 0, 4);
        closed.pass(1);
        closed.turn(1, 0, 0);
        closed.pass(4);
        Check.due("one call for four incidents in a half", closed.calls(0, false), 1);
        Check.due("no call when they are closed", closed.calls(0, true), 0);
    }

    private static void personsAreAsked() {
        for (int person : new int[] {-1, 6, Integer.MAX_VALUE, Integer.MIN_VALUE}) {
            Check.throwsIndex("near(" + person + ")", Scenes::nothing, y -> y.near(person));
            Check.throwsIndex("blots(" + person + ")", Scenes::nothing, y -> y.blots(person));
            Check.throwsIndex("rests(" + person + ")", Scenes::nothing, y -> y.rests(person));
            Check.throwsIndex("calls(" + person + ", true)", Scenes::nothing, y -> y.calls(person, true));
            Check.throwsIndex("calls(" + person + ", false)", Scenes::nothing, y -> y.calls(person, false));
        }
    }
}

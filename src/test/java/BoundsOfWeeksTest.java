/** A test of its own for each sentence of the promises 8 to 17 that names a bound. */
public final class BoundsOfWeeksTest {
    public static void main(String[] args) {
        ofTakeOver();
        ofPass();
        ofHolder();
        ofNearAndBlots();
        ofRestsAndOnCall();
        ofCalls();
        Check.end("BoundsOfWeeksTest");
    }

    private static void ofTakeOver() {
        Check.sentence("Promise 8: person: 0 to 5; throws IndexOutOfBoundsException if there is no such person",
                BoundsOfWeeksTest::personsOfTakeOver);
        Check.sentence("Promise 8: A person takes the next week over from its holder",
                BoundsOfWeeksTest::takeOverOfTheNextWeek);
        Check.sentence("Promise 8: Returns the person who was its holder", BoundsOfWeeksTest::takeOverReturns);
        Check.sentence("Promise 8: Throws IllegalStateException if the person is the holder of this week",
                BoundsOfWeeksTest::holderOfThisWeek);
        Check.sentence("Promise 8: or of the next one", BoundsOfWeeksTest::holderOfTheNextWeek);
    }

    private static void personsOfTakeOver() {
        Check.indexes("takeOver(n) at first", Scenes::nothing, 2, 5, (y, n) -> y.takeOver(n == 0 || n == 1 ? -1 : n));
        Check.indexes("takeOver(n) at the end", Scenes.at(560), 0, 3, (y, n) -> y.takeOver(n == 4 || n == 5 ? 6 : n));
    }

    private static void takeOverOfTheNextWeek() {
        for (int week = 0; week <= 40; week += 20) {
            Rotaforge x = Check.played(Scenes.at(14 * week));
            int person = (week + 3) % 6;
            x.takeOver(person);
            Check.due("holder of this week " + week, x.holder(week), week % 6);
            Check.due("holder of the next week", x.holder(week + 1), person);
            Check.due("near of the person who took it", x.near(person), 1);
        }
        Rotaforge last = Check.played(Scenes.at(13));
        last.takeOver(5);
        last.pass(1);
        Check.due("onCall a half later, taken over in the last half ahead", last.onCall(), 5);
        Check.due("takeOver in the first half of a week", last.takeOver(0), 1);
        last.pass(14);
        Check.due("onCall a week later", last.onCall(), 0);
        Rotaforge resting = Check.played(Scenes.allFaulty(4));
        Check.due("rests(1)", resting.rests(1), true);
        resting.takeOver(2);
        Check.due("takeOver by one who rests", resting.takeOver(1), 2);
    }

    private static void takeOverReturns() {
        Rotaforge x = new Rotaforge();
        Check.due("takeOver(2)", x.takeOver(2), 1);
        Check.due("takeOver(5)", x.takeOver(5), 2);
        Check.due("takeOver(1), who was it first", x.takeOver(1), 5);
        x.pass(28);
        Check.due("takeOver(0), two weeks later", x.takeOver(0), 3);
        Rotaforge end = Check.played(Scenes.at(560));
        Check.due("takeOver(0) at the end", end.takeOver(0), 5);
    }

    private static void holderOfThisWeek() {
        Check.throwsState("takeOver(0) at first", Scenes::nothing, y -> y.takeOver(0));
        Check.throwsState("takeOver(0) in the last half of week 0", Scenes.at(13), y -> y.takeOver(0));
        Check.allows("takeOver(0) in the first half of week 1", Scenes.at(14), y -> y.takeOver(0));
        Check.throwsState("takeOver(1) in the first half of week 1", Scenes.at(14), y -> y.takeOver(1));
        Check.throwsState("takeOver(4) at the end", Scenes.at(560), y -> y.takeOver(4));
        Check.throwsState("takeOver(5), who took this week over", Scenes.at(13).then(y -> y.takeOver(5))
                .then(y -> y.pass(1)), y -> y.takeOver(5));
    }

    private static void holderOfTheNextWeek() {
        Check.throwsState("takeOver(1) at first", Scenes::nothing, y -> y.takeOver(1));
        Check.throwsState("takeOver(1) in the last half of week 0", Scenes.at(13), y -> y.takeOver(1));
        Check.throwsState("takeOver(2) in the first half of week 1", Scenes.at(14), y -> y.takeOver(2));
        Check.allows("takeOver(2) in the last half of week 0", Scenes.at(13), y -> y.takeOver(2));
        Check.throwsState("takeOver(5) at the end", Scenes.at(560), y -> y.takeOver(5));
        Check.throwsState("takeOver(3) again", y -> y.takeOver(3), y -> y.takeOver(3));
        Check.allows("takeOver(1), who was it first", y -> y.takeOver(3), y -> y.takeOver(1));
    }

    private static void ofPass() {
        Check.sentence("Promise 9: halves: 1 to 28", BoundsOfWeeksTest::halvesThatPass);
        Check.sentence("Promise 9: Returns how many incidents open in them", BoundsOfWeeksTest::passReturns);
        Check.sentence("Promise 9: Throws IllegalArgumentException if halves is out of range",
                BoundsOfWeeksTest::halvesOutOfRange);
        Check.sentence("Promise 9: Throws IllegalStateException if the time would be above 560",
                BoundsOfWeeksTest::timeAbove560);
        Check.sentence("Promise 9: the first line of the throws clause decides", BoundsOfWeeksTest::passesFirstLine);
    }

    private static void halvesThatPass() {
        for (int halves = 1; halves <= 28; halves++) {
            Rotaforge once = Check.played(Scenes::busy);
            Rotaforge oneByOne = Check.played(Scenes::busy);
            int opened = once.pass(halves);
            int sum = 0;
            for (int half = 0; half < halves; half++) {
                sum += oneByOne.pass(1);
            }
            Check.due("time behind pass(" + halves + ")", once.time(), 4 + halves);
            Check.due("pass(" + halves + ")", opened, sum);
            Check.due("all that is seen behind it", Snapshot.of(once), Snapshot.of(oneByOne));
        }
    }

    private static void passReturns() {
        Check.due("pass(1) when nothing is faulty", new Rotaforge().pass(1), 0);
        Check.due("pass(28) when nothing is faulty", new Rotaforge().pass(28), 0);
        for (int level = 1; level <= 4; level++) {
            Rotaforge x = new Rotaforge();
            x.defect(0, 0, true);
            x.turn(5, 0, level);
            Check.due("pass(28) with so many faulty rings", x.pass(28), level);
            Check.due("pass(28) when they are open", x.pass(28), 0);
        }
        for (int count = 195; count <= 200; count++) {
            Rotaforge x = Check.played(Scenes.incidents(count));
            x.turn(5, 0, 4);
            Check.due("pass(2) with four faulty rings and " + count + " incidents", x.pass(2),
                    Math.min(4, 200 - count));
        }
        Rotaforge end = Check.played(Scenes.at(559).then(Scenes.allFaulty(0)));
        Check.due("pass(1) into the last half", end.pass(1), 4);
    }

    private static void halvesOutOfRange() {
        for (int halves : Check.outside(1, 28)) {
            Check.throwsArgument("pass(" + halves + ")", Scenes::busy, y -> y.pass(halves));
        }
        Check.allows("pass(1)", Scenes::busy, y -> y.pass(1));
        Check.allows("pass(28)", Scenes::busy, y -> y.pass(28));
    }

    private static void timeAbove560() {
        for (int halves = 1; halves <= 28; halves++) {
            int passed = halves;
            Rotaforge x = Check.played(Scenes.at(560 - halves));
            x.pass(passed);
            Check.due("time behind the last pass", x.time(), 560);
            Check.throwsState("pass(" + halves + ") to 561", Scenes.at(561 - halves), y -> y.pass(passed));
        }
        Check.throwsState("pass(28) at 560", Scenes.at(560), y -> y.pass(28));
    }

    private static void passesFirstLine() {
        for (int halves : Check.outside(1, 28)) {
            Check.throwsArgument("pass(" + halves + ") at 560", Scenes.at(560), y -> y.pass(halves));
            Check.throwsArgument("pass(" + halves + ") at 540", Scenes.at(540), y -> y.pass(halves));
        }
    }

    private static void ofHolder() {
        Check.sentence("Promise 10: Returns the time", BoundsOfWeeksTest::timeAtTheEnds);
        Check.sentence("Promise 11: week: 0 up to the week after that of now; throws IndexOutOfBoundsException if "
                + "week is out of range", BoundsOfWeeksTest::weeksOfHolder);
    }

    private static void timeAtTheEnds() {
        Check.due("time at first", new Rotaforge().time(), 0);
        Check.due("time ahead of the end", Check.played(Scenes.at(559)).time(), 559);
        Check.due("time at the end", Check.played(Scenes.at(560)).time(), 560);
    }

    private static void weeksOfHolder() {
        for (int time : new int[] {0, 13, 14, 27, 28, 545, 546, 559, 560}) {
            Check.indexes("holder(n) at " + time, Scenes.at(time), 0, time / 14 + 1, (y, n) -> y.holder(n));
            Check.due("holder of the last week", Check.played(Scenes.at(time)).holder(time / 14 + 1),
                    (time / 14 + 1) % 6);
            Check.due("holder of the first week", Check.played(Scenes.at(time)).holder(0), 0);
        }
    }

    private static void ofNearAndBlots() {
        Check.sentence("Promise 12: person: 0 to 5; throws IndexOutOfBoundsException if there is no such person",
                () -> Check.indexes("near(n)", Scenes::busy, 0, 5, (y, n) -> y.near(n)));
        Check.sentence("Promise 12: how near a person is to the week after the next one, by all as it is now",
                BoundsOfWeeksTest::nearAtTheEdgesOfWeeks);
        Check.sentence("Promise 13: person: 0 to 5; throws IndexOutOfBoundsException if there is no such person",
                () -> Check.indexes("blots(n)", Scenes::busy, 0, 5, (y, n) -> y.blots(n)));
        Check.sentence("Promise 13: Returns how many", BoundsOfWeeksTest::manyBlots);
    }

    private static void nearAtTheEdgesOfWeeks() {
        int[] first = {2, 1, 3, 3, 3, 3};
        int[] second = {3, 2, 1, 4, 4, 4};
        for (int person = 0; person < 6; person++) {
            Check.due("near(" + person + ") at 0", new Rotaforge().near(person), first[person]);
            Check.due("near(" + person + ") at 13", Check.played(Scenes.at(13)).near(person), first[person]);
            Check.due("near(" + person + ") at 14", Check.played(Scenes.at(14)).near(person), second[person]);
            Check.due("near(" + person + ") at 27", Check.played(Scenes.at(27)).near(person), second[person]);
            Check.due("near(" + person + ") at 560", Check.played(Scenes.at(560)).near(person),
                    person == 5 ? 1 : 6 - person);
        }
        Rotaforge x = Check.played(Scenes::busy);
        Check.due("near(3) with a blot", x.near(3), 4);
        Check.due("near(5) with a blot", x.near(5), 4);
        Check.due("near(4) without", x.near(4), 3);
    }

    private static void manyBlots() {
        Rotaforge x = Check.played(Scenes.at(1));
        x.defect(0, 0, true);
        for (int round = 1; round <= 6; round++) {
            x.turn(5, 0, 4);
            x.pass(1);
            x.turn(5, 0, 0);
            Check.due("blots(5)", x.blots(5), 4 * round);
            Check.due("near(5)", x.near(5), 3 + 4 * round);
            x.pass(1);
        }
        Check.due("blots(4)", x.blots(4), 0);
        Check.due("blots(0), who was called", x.blots(0), 0);
    }

    private static void ofRestsAndOnCall() {
        Check.sentence("Promise 14: person: 0 to 5; throws IndexOutOfBoundsException if there is no such person",
                () -> Check.indexes("rests(n)", Scenes::busy, 0, 5, (y, n) -> y.rests(n)));
        Check.sentence("Promise 14: Tells whether a person rests in this half", BoundsOfWeeksTest::restOfEach);
        Check.sentence("Promise 15: Returns the person on call in this half", BoundsOfWeeksTest::onCallInThisHalf);
        Check.sentence("Promise 15: NONE if nobody is", BoundsOfWeeksTest::nobodyOnCall);
    }

    /** In allFaulty the person n is called at night in the half 2 * n + 1. */
    private static void restOfEach() {
        Rotaforge x = Check.played(Scenes.allFaulty(0));
        for (int half = 0; half <= 15; half++) {
            for (int person = 0; person < 6; person++) {
                int called = 2 * person + 1;
                Check.due("rests(" + person + ") in the half " + half, x.rests(person),
                        half > called && half <= called + 12);
            }
            if (half < 15) {
                x.pass(1);
            }
        }
        Rotaforge again = Check.played(Scenes.allFaulty(15));
        again.pass(1);
        Check.due("rests(0) in the half 16, called again in 15", again.rests(0), true);
        again.pass(11);
        Check.due("rests(0) in the half 27", again.rests(0), true);
        again.pass(1);
        Check.due("rests(0) in the half 28", again.rests(0), false);
    }

    private static void onCallInThisHalf() {
        Check.due("onCall at first", new Rotaforge().onCall(), 0);
        Check.due("onCall in the last half of week 0", Check.played(Scenes.at(13)).onCall(), 0);
        Check.due("onCall in the first half of week 1", Check.played(Scenes.at(14)).onCall(), 1);
        Check.due("onCall at the end", Check.played(Scenes.at(560)).onCall(), 4);
        Rotaforge taken = Check.played(y -> y.takeOver(5));
        Check.due("onCall when the next week was taken over", taken.onCall(), 0);
        taken.pass(14);
        Check.due("onCall in that week", taken.onCall(), 5);
        Rotaforge x = Check.played(Scenes.onlyPersonZeroRests(1));
        Check.due("onCall in the half of the call", x.onCall(), 0);
        x.pass(1);
        Check.due("onCall in the half behind it", x.onCall(), 3);
    }

    private static void nobodyOnCall() {
        for (int half = 10; half <= 14; half++) {
            int due = half == 12 || half == 13 ? Rotaforge.NONE : half == 14 ? 0 : 5;
            Check.due("onCall in the half " + half, Check.played(Scenes.allFaulty(half)).onCall(), due);
        }
    }

    private static void ofCalls() {
        Check.sentence("Promise 16: person: 0 to 5; throws IndexOutOfBoundsException if there is no such person",
                BoundsOfWeeksTest::personsOfCalls);
        Check.sentence("Promise 16: whether calls at night are counted, or those by day",
                BoundsOfWeeksTest::callsByDayAndNight);
        Check.sentence("Promise 17: Returns how many calls were missed", BoundsOfWeeksTest::missedCalls);
    }

    private static void personsOfCalls() {
        Check.indexes("calls(n, true)", Scenes::busy, 0, 5, (y, n) -> y.calls(n, true));
        Check.indexes("calls(n, false)", Scenes::busy, 0, 5, (y, n) -> y.calls(n, false));
    }

    private static void callsByDayAndNight() {
        for (int person = 0; person < 6; person++) {
            Check.due("calls by day at first", new Rotaforge().calls(person, false), 0);
            Check.due("calls at night at first", new Rotaforge().calls(person, true), 0);
        }
        Rotaforge x = Check.played(Scenes.allFaulty(14));
        for (int person = 0; person < 6; person++) {
            Check.due("calls by day of " + person + " in 14 halves", x.calls(person, false), 1);
            Check.due("calls at night of " + person + " in 14 halves", x.calls(person, true), 1);
        }
        Rotaforge day = Check.played(Scenes.at(1).then(Scenes.allFaulty(1)));
        Check.due("calls by day, called in the half 2", day.calls(0, false), 1);
        Check.due("calls at night, called in the half 2", day.calls(0, true), 0);
    }

    private static void missedCalls() {
        Check.due("missed at first", new Rotaforge().missed(), 0);
        int[] due = {0, 1, 2, 2, 2};
        for (int half = 11; half <= 15; half++) {
            Check.due("missed in the half " + half, Check.played(Scenes.allFaulty(half)).missed(), due[half - 11]);
        }
        Rotaforge x = Check.played(Scenes.allFaulty(560));
        Check.due("each half was a call, or one was missed", Scenes.callsOfAll(x) + x.missed(), 560);
    }
}

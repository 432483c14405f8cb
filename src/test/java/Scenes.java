/** Beginnings that several tests share. */
final class Scenes {
    private Scenes() {
    }

    static void nothing(Rotaforge x) {
    }

    /** Lets many halves pass, however many one call may. */
    static void passAll(Rotaforge x, int halves) {
        for (int left = halves; left > 0; left -= 28) {
            x.pass(Math.min(left, 28));
        }
    }

    /** How often anybody was called, by day or at night. */
    static int callsOfAll(Rotaforge x) {
        int calls = 0;
        for (int person = 0; person < 6; person++) {
            calls += x.calls(person, false) + x.calls(person, true);
        }
        return calls;
    }

    /** A time at which nothing else has been. */
    static Check.Scenario at(int time) {
        return x -> passAll(x, time);
    }

    /** So many versions, of which all but one are built. */
    static Check.Scenario versions(int count) {
        return x -> {
            for (int built = 1; built < count; built++) {
                x.build();
            }
        };
    }

    /** So many changes, all of the switch 0: the odd ones set the level 0. */
    static Check.Scenario changes(int count) {
        return x -> {
            for (int i = 0; i < count; i++) {
                x.turn(i % 6, 0, i % 2 == 0 ? 1 : 0);
            }
        };
    }

    /** All rings are faulty from the half 1 on, which is a night: the person 0 rests from 2 to 13. */
    static void personZeroRests(Rotaforge x) {
        x.build();
        x.turn(1, 7, 1);
        x.defect(0, Rotaforge.NONE, true);
        x.pass(2);
    }

    /** From the half 1 on: the person 0 is called in it alone, and rests from 2 to 13. */
    static Check.Scenario onlyPersonZeroRests(int time) {
        return x -> {
            x.build();
            x.defect(0, 7, true);
            x.turn(3, 7, 1);
            x.pass(1);
            x.turn(3, 7, 0);
            passAll(x, time - 1);
        };
    }

    /** All rings are always faulty: the persons are called one after the other, and all rest in 12 and 13. */
    static Check.Scenario allFaulty(int time) {
        return x -> {
            x.defect(0, Rotaforge.NONE, true);
            passAll(x, time);
        };
    }

    /** There are two versions and 200 changes, all of the switch 0, which has the level 0. */
    static void twoHundredChanges(Rotaforge x) {
        x.build();
        changes(200).play(x);
    }

    /** There are 24 defects, all of the version 0 where the switch 0 is on. */
    static void twentyFourDefects(Rotaforge x) {
        for (int i = 0; i < 24; i++) {
            x.defect(0, 0, true);
        }
    }

    /** Each round opens and closes an incident in the rings below the level; all calls are by day. */
    static void rounds(Rotaforge x, int rounds, int level) {
        for (int i = 0; i < rounds; i++) {
            x.turn(5, 0, level);
            x.pass(1);
            x.turn(5, 0, 0);
            x.pass(1);
        }
    }

    /** So many incidents, all closed, by the person 5 and the switch 0; nobody rests. */
    static Check.Scenario incidents(int count) {
        return x -> {
            x.defect(0, 0, true);
            x.pass(1);
            rounds(x, count / 4, 4);
            rounds(x, count % 4 == 0 ? 0 : 1, count % 4);
        };
    }

    /**
     * A bit of everything at the time 4: three versions, needs, defects, four changes, an incident that
     * was closed and one that is open, blots and calls; nobody rests, and no switch has the level 3.
     */
    static void busy(Rotaforge x) {
        x.build();
        x.build();
        x.need(6, 7, true);
        x.need(5, 6, true);
        x.defect(1, 0, true);
        x.defect(2, 5, false);
        x.pass(1);
        x.roll(4, 0, 1);
        x.turn(3, 0, 1);
        x.pass(1);
        x.turn(3, 0, 0);
        x.pass(1);
        x.turn(5, 0, 2);
        x.pass(1);
    }

    /** At the time 8 each ring can be rolled to: the ring n to the version 4 - n, and runs 3 - n. */
    static void stairs(Rotaforge x) {
        versions(5).play(x);
        x.roll(1, 0, 1);
        x.pass(2);
        x.roll(1, 1, 1);
        x.pass(2);
        x.roll(1, 2, 1);
        x.roll(1, 0, 2);
        x.pass(2);
        x.roll(1, 1, 2);
        x.roll(1, 0, 3);
        x.pass(2);
    }

    /** The version 1 is rolled out ring after ring, last to the ring ahead of this one, in this half. */
    static Check.Scenario justAhead(int ring) {
        return x -> {
            versions(3).play(x);
            for (int ahead = 0; ahead < ring; ahead++) {
                if (ahead > 0) {
                    x.pass(2);
                }
                x.roll(1, ahead, 1);
            }
        };
    }
}

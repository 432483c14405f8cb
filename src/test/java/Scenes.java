/** Beginnings that several tests share. */
final class Scenes {
    private Scenes() {
    }

    static void nothing(Rotaforge x) {
    }

    /** Lets many halves pass, however many one call may. */
    static void passAll(Rotaforge x, int halves) {
        for (int left = halves; left > 0; left -= 28) {
            x.pass(Math.min(left, 28));
        }
    }

    /** All rings are faulty from the half 1 on, which is a night: the person 0 rests from 2 to 13. */
    static void personZeroRests(Rotaforge x) {
        x.build();
        x.turn(1, 7, 1);
        x.defect(0, Rotaforge.NONE, true);
        x.pass(2);
    }

    /** There are two versions and 200 changes, all of the switch 0, which has the level 0. */
    static void twoHundredChanges(Rotaforge x) {
        x.build();
        for (int i = 0; i < 100; i++) {
            x.turn(i % 6, 0, 1);
            x.turn(i % 6, 0, 0);
        }
    }

    /** There are 24 defects, all of the version 0 where the switch 0 is on. */
    static void twentyFourDefects(Rotaforge x) {
        for (int i = 0; i < 24; i++) {
            x.defect(0, 0, true);
        }
    }

    /** Each round opens and closes an incident in the rings below the level; all calls are by day. */
    static void rounds(Rotaforge x, int rounds, int level) {
        for (int i = 0; i < rounds; i++) {
            x.turn(5, 0, level);
            x.pass(1);
            x.turn(5, 0, 0);
            x.pass(1);
        }
    }
}

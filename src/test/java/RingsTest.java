/** Promises 18 to 23: versions, version, level, isOn, isFaulty, rollable. */
public final class RingsTest {
    public static void main(String[] args) {
        versionsAreCounted();
        levelsSetRings();
        switchesAreOnByNeeds();
        ringsAreFaulty();
        rollableOfRingZero();
        rollableOfOtherRings();
        wrongNumbers();
        Check.end("RingsTest");
    }

    private static void versionsAreCounted() {
        Rotaforge x = new Rotaforge();
        x.build();
        x.build();
        Check.due("versions", x.versions(), 3);
        x.roll(0, 0, 2);
        Check.due("version(0)", x.version(0), 2);
        Check.due("version(3)", x.version(3), 0);
    }

    private static void levelsSetRings() {
        Rotaforge x = new Rotaforge();
        for (int level = 4; level >= 1; level--) {
            x.turn(0, 6, level);
            Check.due("level(6)", x.level(6), level);
            for (int ring = 0; ring < 4; ring++) {
                Check.due("isOn(6, " + ring + ") at " + level, x.isOn(6, ring), ring < level);
            }
        }
        x.turn(0, 6, 0);
        Check.due("isOn(6, 0) at 0", x.isOn(6, 0), false);
    }

    private static void switchesAreOnByNeeds() {
        Rotaforge x = new Rotaforge();
        x.turn(0, 0, 4);
        x.turn(0, 1, 3);
        x.turn(0, 2, 2);
        x.need(0, 1, true);
        Check.due("isOn(0, 2)", x.isOn(0, 2), true);
        Check.due("isOn(0, 3), its need is not set there", x.isOn(0, 3), false);
        x.need(1, 2, true);
        Check.due("isOn(0, 1)", x.isOn(0, 1), true);
        Check.due("isOn(0, 2), the need of its need is not set there", x.isOn(0, 2), false);
        Check.due("isOn(2, 1), which needs nothing", x.isOn(2, 1), true);
        x.need(0, 3, true);
        Check.due("isOn(0, 0), one of two needs is not set", x.isOn(0, 0), false);
        x.turn(0, 3, 1);
        Check.due("isOn(0, 0), both are", x.isOn(0, 0), true);
        x.need(0, 1, false);
        x.turn(0, 3, 4);
        Check.due("isOn(0, 3), needed no more", x.isOn(0, 3), true);
    }

    private static void ringsAreFaulty() {
        Rotaforge x = new Rotaforge();
        x.defect(0, 0, true);
        x.need(0, 1, true);
        x.turn(0, 0, 3);
        Check.due("isFaulty(0), the switch is set and not on", x.isFaulty(0), false);
        x.turn(0, 1, 1);
        Check.due("isFaulty(0), the switch is on", x.isFaulty(0), true);
        Check.due("isFaulty(1)", x.isFaulty(1), false);
        x.need(0, 1, false);
        Check.due("isFaulty(2), at once", x.isFaulty(2), true);
        Check.due("isFaulty(3)", x.isFaulty(3), false);
        x.build();
        x.roll(0, 0, 1);
        Check.due("isFaulty(0) with another version", x.isFaulty(0), false);
        x.defect(1, 4, false);
        Check.due("isFaulty(0) where a switch is not on", x.isFaulty(0), true);
        x.turn(0, 4, 1);
        Check.due("isFaulty(0) where it is", x.isFaulty(0), false);
    }

    private static void rollableOfRingZero() {
        Rotaforge x = new Rotaforge();
        Check.due("rollable(0), it runs the greatest", x.rollable(0), -1);
        x.build();
        x.build();
        Check.due("rollable(0)", x.rollable(0), 2);
        x.roll(0, 0, 1);
        Check.due("rollable(0), though it runs another", x.rollable(0), 2);
        x.defect(1, -1, true);
        x.pass(1);
        Check.due("rollable(0) under an incident", x.rollable(0), 2);
        x.roll(1, 0, 2);
        Check.due("rollable(0), it runs the greatest", x.rollable(0), -1);
    }

    private static void rollableOfOtherRings() {
        Rotaforge x = new Rotaforge();
        x.build();
        x.build();
        x.roll(0, 0, 1);
        Check.due("rollable(1) in the same half", x.rollable(1), -1);
        x.pass(1);
        Check.due("rollable(1) a half later", x.rollable(1), -1);
        x.pass(1);
        Check.due("rollable(1) two halves later", x.rollable(1), 1);
        Check.due("rollable(2), it runs that of the ring ahead", x.rollable(2), -1);
        x.roll(0, 1, 1);
        Check.due("rollable(1), it runs it", x.rollable(1), -1);
        x.pass(2);
        Check.due("rollable(2)", x.rollable(2), 1);
        x.turn(5, 0, 1);
        x.defect(1, 0, true);
        Check.due("rollable(2) without an incident yet", x.rollable(2), 1);
        x.pass(1);
        Check.due("rollable(2) under an incident in ring 0", x.rollable(2), -1);
        x.turn(5, 0, 0);
        x.pass(1);
        Check.due("rollable(2) behind it", x.rollable(2), 1);
        x.defect(0, -1, true);
        x.pass(1);
        Check.due("rollable(2) under incidents in rings 2 and 3", x.rollable(2), 1);
        Check.due("rollable(3), it runs that of the ring ahead", x.rollable(3), -1);
    }

    private static void wrongNumbers() {
        for (int n : new int[] {-1, Integer.MAX_VALUE, Integer.MIN_VALUE, 4}) {
            Check.throwsIndex("version(" + n + ")", Scenes::nothing, y -> y.version(n));
            Check.throwsIndex("isFaulty(" + n + ")", Scenes::nothing, y -> y.isFaulty(n));
            Check.throwsIndex("rollable(" + n + ")", Scenes::nothing, y -> y.rollable(n));
            Check.throwsIndex("isOn(0, " + n + ")", Scenes::nothing, y -> y.isOn(0, n));
        }
        for (int n : new int[] {-1, Integer.MAX_VALUE, Integer.MIN_VALUE, 8}) {
            Check.throwsIndex("level(" + n + ")", Scenes::nothing, y -> y.level(n));
            Check.throwsIndex("isOn(" + n + ", 0)", Scenes::nothing, y -> y.isOn(n, 0));
        }
    }
}

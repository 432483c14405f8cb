import java.util.Random;

/** Long runs of drawn calls, each answered by the class and by the Model. */
public final class ModelTest {
    private static final int RUNS = 400;
    private static final int CALLS = 512;

    private final Random drawn;
    private final int run;
    private final int kind;
    private final Rotaforge x = new Rotaforge();
    private final Model m = new Model();

    private ModelTest(int run) {
        this.run = run;
        kind = run % 5;
        drawn = new Random(run);
    }

    public static void main(String[] args) {
        for (int run = 0; run < RUNS; run++) {
            new ModelTest(run).play();
        }
        Check.end("ModelTest");
    }

    private void play() {
        for (int i = 0; i < CALLS; i++) {
            // The kinds of runs differ in how much is asked, changed and let pass.
            int weight = drawn.nextInt(100);
            int asked = kind == 0 ? 60 : 15;
            int told = i < 40 ? 40 : kind == 1 ? 10 : 2;
            int passed = i < 40 ? 5 : kind >= 2 ? 40 : 20;
            if (weight < asked) {
                ask();
            } else if (weight < asked + told) {
                tell();
            } else if (weight < asked + told + passed) {
                pass();
            } else {
                make();
            }
        }
    }

    /** A number under the bound, and now and then one that is just out of it or far away. */
    private int some(int bound) {
        int far = drawn.nextInt(kind == 4 ? 20 : 80);
        return switch (far) {
            case 0 -> bound;
            case 1 -> -1;
            case 2 -> drawn.nextBoolean() ? Integer.MAX_VALUE : Integer.MIN_VALUE;
            default -> bound == 0 ? 0 : drawn.nextInt(bound);
        };
    }

    /** A log's entry, more often one of the latest. */
    private int someOf(int count) {
        return drawn.nextBoolean() ? some(count) : count - 1 - drawn.nextInt(4);
    }

    /** A person who most often does not rest. */
    private int somePerson() {
        int person = some(6);
        for (int i = 0; i < 3 && person >= 0 && person < 6 && m.rests(person); i++) {
            person = some(6);
        }
        return person;
    }

    /** A change, most often the one to which a ring is traced, so that faults come and go. */
    private int someToRevert() {
        int traced = m.trace(drawn.nextInt(4));
        return traced != -1 && drawn.nextInt(4) != 0 ? traced : someOf(m.changes());
    }

    private void compare(String what, Check.Call got, Check.Call want) {
        Check.due("run " + run + " at " + m.time() + ": " + what, Check.outcome(got), Check.outcome(want));
    }

    private void tell() {
        int a = some(8);
        int b = some(8);
        int version = some(m.versions());
        // A fault that nobody can mend lets little happen behind it: most runs have none.
        int control = (run % 16 == 0 || version > 1) && drawn.nextInt(6) == 0 ? -1 : some(8);
        boolean is = kind == 3 || control % 3 != 0 || drawn.nextBoolean();
        switch (drawn.nextInt(4)) {
            case 0 -> compare("build()", () -> x.build(), () -> m.build());
            case 1 -> compare("defect(" + version + ", " + control + ", " + is + ")",
                    () -> x.defect(version, control, is), () -> m.defect(version, control, is));
            default -> compare("need(" + a + ", " + b + ", " + is + ")",
                    () -> x.need(a, b, is), () -> m.need(a, b, is));
        }
    }

    private void pass() {
        int halves = switch (kind == 3 ? 5 : drawn.nextInt(kind == 2 ? 6 : 30)) {
            case 0 -> 1 + some(28);
            case 1 -> 14;
            case 2 -> some(29);
            case 3, 4 -> 2;
            default -> 1;
        };
        compare("pass(" + halves + ")", () -> x.pass(halves), () -> m.pass(halves));
    }

    private void make() {
        int person = somePerson();
        int ring = some(4);
        int control = some(8);
        int level = drawn.nextBoolean() ? 4 : some(5);
        int version = drawn.nextInt(3) == 0 || ring <= 0 || ring > 3 ? some(m.versions()) : m.version(ring - 1);
        int change = someToRevert();
        switch (drawn.nextInt(kind == 3 ? 14 : 8)) {
            case 0, 1, 2 -> compare("turn(" + person + ", " + control + ", " + level + ")",
                    () -> x.turn(person, control, level), () -> m.turn(person, control, level));
            case 3, 4, 5 -> compare("roll(" + person + ", " + ring + ", " + version + ")",
                    () -> x.roll(person, ring, version), () -> m.roll(person, ring, version));
            case 7 -> compare("takeOver(" + person + ")", () -> x.takeOver(person), () -> m.takeOver(person));
            default -> compare("revert(" + person + ", " + change + ")",
                    () -> x.revert(person, change), () -> m.revert(person, change));
        }
    }

    private void ask() {
        if (drawn.nextBoolean()) {
            askOfPersonsAndTime();
        } else {
            askOfRingsAndLogs();
        }
    }

    private void askOfPersonsAndTime() {
        int person = some(6);
        boolean isNight = drawn.nextBoolean();
        int week = drawn.nextInt(3) == 0 ? some(m.time() / 14 + 2) : m.time() / 14 + 1;
        switch (drawn.nextInt(8)) {
            case 0 -> compare("time()", () -> x.time(), () -> m.time());
            case 1 -> compare("holder(" + week + ")", () -> x.holder(week), () -> m.holder(week));
            case 2 -> compare("near(" + person + ")", () -> x.near(person), () -> m.near(person));
            case 3 -> compare("blots(" + person + ")", () -> x.blots(person), () -> m.blots(person));
            case 4 -> compare("rests(" + person + ")", () -> x.rests(person), () -> m.rests(person));
            case 5 -> compare("onCall()", () -> x.onCall(), () -> m.onCall());
            case 6 -> compare("calls(" + person + ", " + isNight + ")",
                    () -> x.calls(person, isNight), () -> m.calls(person, isNight));
            default -> compare("missed()", () -> x.missed(), () -> m.missed());
        }
    }

    private void askOfRingsAndLogs() {
        int ring = some(4);
        int control = some(8);
        int change = someOf(m.changes());
        int incident = someOf(m.incidents());
        switch (drawn.nextInt(18)) {
            case 0 -> compare("versions()", () -> x.versions(), () -> m.versions());
            case 1 -> compare("version(" + ring + ")", () -> x.version(ring), () -> m.version(ring));
            case 2 -> compare("level(" + control + ")", () -> x.level(control), () -> m.level(control));
            case 3 -> compare("isOn(" + control + ", " + ring + ")",
                    () -> x.isOn(control, ring), () -> m.isOn(control, ring));
            case 4 -> compare("isFaulty(" + ring + ")", () -> x.isFaulty(ring), () -> m.isFaulty(ring));
            case 5 -> compare("rollable(" + ring + ")", () -> x.rollable(ring), () -> m.rollable(ring));
            case 6 -> compare("changes()", () -> x.changes(), () -> m.changes());
            case 7 -> compare("change(" + change + ")", () -> x.change(change), () -> m.change(change));
            case 8 -> compare("madeAt(" + change + ")", () -> x.madeAt(change), () -> m.madeAt(change));
            case 9 -> compare("heals(" + change + ", " + ring + ")",
                    () -> x.heals(change, ring), () -> m.heals(change, ring));
            case 10 -> compare("trace(" + ring + ")", () -> x.trace(ring), () -> m.trace(ring));
            case 11 -> compare("traceByTrying(" + ring + ")", () -> x.traceByTrying(ring), () -> m.trace(ring));
            case 12 -> compare("incidents()", () -> x.incidents(), () -> m.incidents());
            case 13 -> compare("openIn(" + ring + ")", () -> x.openIn(ring), () -> m.openIn(ring));
            case 14 -> compare("openedAt(" + incident + ")", () -> x.openedAt(incident), () -> m.openedAt(incident));
            case 15 -> compare("closedAt(" + incident + ")", () -> x.closedAt(incident), () -> m.closedAt(incident));
            case 16 -> compare("tracedTo(" + incident + ")", () -> x.tracedTo(incident), () -> m.tracedTo(incident));
            default -> compare("firstCalled(" + incident + ")",
                    () -> x.firstCalled(incident), () -> m.firstCalled(incident));
        }
    }
}

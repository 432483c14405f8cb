import java.util.Objects;

/** What the tests share: it counts and prints every answer that is not the one that is due. */
final class Check {
    private static int wrong = 0;
    private static int looked = 0;

    private Check() {
    }

    /** A call of the face, with its answer. */
    interface Call {
        Object answer();
    }

    /** Calls that bring a new object to where a test wants it. */
    interface Scenario {
        void play(Rotaforge x);
    }

    /** A call that is due to throw. */
    interface WrongCall {
        Object answer(Rotaforge x);
    }

    static void due(String what, Object got, Object want) {
        looked++;
        if (!Objects.equals(got, want)) {
            wrong++;
            System.out.println(what + " answered " + got + ", due is " + want);
        }
    }

    /** The answer as a text, or the name of the very class that was thrown. */
    static String outcome(Call call) {
        try {
            return String.valueOf(call.answer());
        } catch (RuntimeException e) {
            return "throws." + e.getClass().getSimpleName();
        }
    }

    static void throwsIndex(String what, Scenario scenario, WrongCall call) {
        refuses(what, scenario, call, "throws.IndexOutOfBoundsException");
    }

    static void throwsArgument(String what, Scenario scenario, WrongCall call) {
        refuses(what, scenario, call, "throws.IllegalArgumentException");
    }

    static void throwsState(String what, Scenario scenario, WrongCall call) {
        refuses(what, scenario, call, "throws.IllegalStateException");
    }

    /** The call throws, and the object answers then as one on which it was never made. */
    private static void refuses(String what, Scenario scenario, WrongCall call, String want) {
        Rotaforge called = played(scenario);
        Rotaforge spared = played(scenario);
        due(what, outcome(() -> call.answer(called)), want);
        due(what + ", and all that is seen then", Snapshot.of(called), Snapshot.of(spared));
    }

    static Rotaforge played(Scenario scenario) {
        Rotaforge x = new Rotaforge();
        scenario.play(x);
        return x;
    }

    static void end(String test) {
        System.out.println(test + ": " + looked + " answers looked at, " + wrong + " not as due");
        if (wrong != 0) {
            System.exit(1);
        }
    }
}

import java.util.Objects;

/** What the tests share: it counts and prints every answer that is not the one that is due. */
final class Check {
    private static int wrong = 0;
    private static int looked = 0;
    private static int sentences = 0;
    private static String sentence = "";

    private Check() {
    }

    /** A call of the face, with its answer. */
    interface Call {
        Object answer();
    }

    /** Calls that bring a new object to where a test wants it. */
    interface Scenario {
        void play(Rotaforge x);

        default Scenario then(Scenario next) {
            return x -> {
                play(x);
                next.play(x);
            };
        }
    }

    /** A call that is due to throw. */
    interface WrongCall {
        Object answer(Rotaforge x);
    }

    /** A call with a number that may be in its bounds or not. */
    interface NumberedCall {
        Object answer(Rotaforge x, int number);
    }

    /** A test of its own for a sentence of the document; it fails if it looks at nothing. */
    static void sentence(String text, Runnable test) {
        int before = looked;
        sentence = "\"" + text + "\": ";
        sentences++;
        due("the test to its end", outcome(() -> {
            test.run();
            return "all";
        }), "all");
        due("whether the test looks at an answer", looked > before + 1, true);
        sentence = "";
    }

    static void due(String what, Object got, Object want) {
        looked++;
        if (!Objects.equals(got, want)) {
            wrong++;
            System.out.println(sentence + what + " answered " + got + ", due is " + want);
        }
    }

    /** The answer as a text, or the name of the very class that was thrown. */
    static String outcome(Call call) {
        try {
            return String.valueOf(call.answer());
        } catch (RuntimeException e) {
            return "throws." + e.getClass().getSimpleName();
        }
    }

    static void throwsIndex(String what, Scenario scenario, WrongCall call) {
        refuses(what, scenario, call, "throws.IndexOutOfBoundsException");
    }

    static void throwsArgument(String what, Scenario scenario, WrongCall call) {
        refuses(what, scenario, call, "throws.IllegalArgumentException");
    }

    static void throwsState(String what, Scenario scenario, WrongCall call) {
        refuses(what, scenario, call, "throws.IllegalStateException");
    }

    /** The call throws, and the object answers then as one on which it was never made. */
    private static void refuses(String what, Scenario scenario, WrongCall call, String want) {
        Rotaforge called = played(scenario);
        Rotaforge spared = played(scenario);
        due(what, outcome(() -> call.answer(called)), want);
        due(what + ", and all that is seen then", Snapshot.of(called), Snapshot.of(spared));
    }

    /** The call is allowed, whatever it answers. */
    static void allows(String what, Scenario scenario, WrongCall call) {
        String got = outcome(() -> call.answer(played(scenario)));
        due(what + ", whether it throws", got.startsWith("throws.") ? got : "no", "no");
    }

    /** The numbers from first to last are there, and no others. */
    static void indexes(String what, Scenario scenario, int first, int last, NumberedCall call) {
        for (int number = first; number <= last; number++) {
            int there = number;
            allows(what + " with " + there, scenario, y -> call.answer(y, there));
        }
        for (int number : outside(first, last)) {
            throwsIndex(what + " with " + number, scenario, y -> call.answer(y, number));
        }
    }

    /** Numbers just outside of the bounds, far ones, and ones that are inside if some bits are lost. */
    static int[] outside(int first, int last) {
        return new int[] {first - 1, last + 1, first - 8, last + 8, first - 32, last + 32, first - 256, last + 256,
            first - 65536, last + 65536, Integer.MIN_VALUE, Integer.MIN_VALUE + last, Integer.MAX_VALUE};
    }

    static Rotaforge played(Scenario scenario) {
        Rotaforge x = new Rotaforge();
        scenario.play(x);
        return x;
    }

    static void end(String test) {
        String told = sentences == 0 ? "" : sentences + " sentences, ";
        System.out.println(test + ": " + told + looked + " answers looked at, " + wrong + " not as due");
        if (wrong != 0) {
            System.exit(1);
        }
    }
}

import java.util.function.BooleanSupplier;

/** Counts and tells the wrong answers of a test, each under the sentence of the document that it breaks. */
final class Check {
    private static final int MOST_SHOWN = 5;

    private final String title;
    private String sentence = "";
    private int sentences = 0;
    private int asked = 0;
    private int wrong = 0;
    private int shown = 0;

    Check(String title) {
        this.title = title;
    }

    /** Runs the test of one sentence, which stands here in the document's own words. */
    void sentence(String words, Runnable test) {
        sentence = " \"" + words + "\"";
        sentences++;
        shown = 0;
        int before = asked;
        try {
            test.run();
            if (asked == before) {
                tell("no call was checked");
            }
        } catch (RuntimeException thrown) {
            tell("a call threw " + thrown);
        }
        sentence = "";
    }

    private void tell(String what) {
        wrong++;
        shown++;
        if (shown <= MOST_SHOWN) {
            System.out.println(title + sentence + ": " + what);
        }
    }

    void due(String what, long got, long want) {
        asked++;
        if (got != want) {
            tell(what + " answered " + got + ", due is " + want);
        }
    }

    void is(String what, boolean got, boolean want) {
        due(what, got ? 1 : 0, want ? 1 : 0);
    }

    void yes(String what, boolean got) {
        is(what, got, true);
    }

    void no(String what, boolean got) {
        is(what, got, false);
    }

    void same(String what, View got, View want) {
        asked++;
        String difference = got.differenceTo(want);
        if (!difference.isEmpty()) {
            tell(what + " shows " + difference);
        }
    }

    /** A refused call answers false and changes nothing that can be seen. */
    void refused(RingGates g, String what, BooleanSupplier call) {
        View before = View.of(g);
        no(what, call.getAsBoolean());
        same("after the refused " + what + ", the object", View.of(g), before);
    }

    void changesNothing(RingGates g, String what, Runnable call) {
        View before = View.of(g);
        call.run();
        same(what, View.of(g), before);
    }

    /** The next step is completed, and leads to this view with a count that is greater by 1. */
    void completes(RingGates g, String what, View want) {
        want.state(RingGates.S_COUNT, g.state(RingGates.S_COUNT) + 1);
        due(what, g.run(1), 1);
        same(what, View.of(g), want);
    }

    /** The next step faults with this code, and changes nothing but the status and the code. */
    void faults(RingGates g, String what, int code) {
        View want = View.of(g).state(RingGates.S_STATUS, RingGates.STATUS_FAULTED).state(RingGates.S_FAULT, code);
        due(what, g.run(1), 0);
        same(what, View.of(g), want);
    }

    /** Steps that only lead to the place of a test must all be completed. */
    void reaches(RingGates g, int steps) {
        due("the run to the place of the test", g.run(steps), steps);
    }

    int wrongSoFar() {
        return wrong;
    }

    void end() {
        String parts = sentences == 0 ? "" : sentences + " sentences, ";
        System.out.println(title + ": " + parts + asked + " checks, " + wrong + " wrong");
        if (wrong != 0 || asked == 0) {
            System.exit(1);
        }
    }
}

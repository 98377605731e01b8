import java.util.List;

/** Promise 9: start. */
public final class Promise09StartTest {
    private static final Check check = new Check("promise 9");

    public static void main(String[] args) {
        for (int status : Scene.STATUSES) {
            refusals(status);
            for (int ring = 0; ring <= 7; ring++) {
                starts(status, Scene.CODE, 0, ring);
                starts(status, Scene.UNDEFINED, 15, ring);
                starts(status, Scene.GATED, 12, ring);
            }
        }
        undefinedSlotFaultsOnFetch();
        stacksAreEmptyAfterStart();
        check.end();
    }

    private static void refusals(int status) {
        int[][] wrong = {
            {-1, 0, 0}, {4, 0, 0}, {8, 0, 0}, {Integer.MIN_VALUE, 0, 0}, {Integer.MAX_VALUE, 0, 0},
            {2, -1, 0}, {2, 16, 0}, {2, 32, 0}, {2, Integer.MIN_VALUE, 0}, {2, Integer.MAX_VALUE, 0},
            {2, 0, -1}, {2, 0, 8}, {2, 0, Integer.MIN_VALUE}, {2, 0, Integer.MAX_VALUE}};
        RingGates g = Scene.inStatus(status);
        List<String> before = Check.fullView(g);
        for (int[] w : wrong) {
            String what = "start " + w[0] + " " + w[1] + " " + w[2] + " in status " + status;
            check.no(what, g.start(w[0], w[1], w[2]));
            check.same(what, Check.fullView(g), before);
        }
    }

    private static void starts(int status, int seg, int off, int ring) {
        String what = "start " + seg + " " + off + " " + ring + " in status " + status;
        RingGates g = Scene.inStatus(status);
        List<String> slots = Check.slotsView(g);
        check.yes(what, g.start(seg, off, ring));
        check.process(what, g, RingGates.STATUS_READY, RingGates.F_NONE, ring, Check.ic(seg, off), 0, 0);
        check.due(what + ", P", g.state(RingGates.S_P), ring);
        check.due(what + ", Q", g.state(RingGates.S_Q), ring);
        check.due(what + ", frames", g.state(RingGates.S_DEPTH), 0);
        check.due(what + ", frame 0", g.frame(0, 0), -1);
        for (int k = 0; k <= 7; k++) {
            check.due(what + ", height of ring " + k, g.stackHeight(k), 0);
        }
        check.same(what, Check.slotsView(g), slots);
    }

    private static void undefinedSlotFaultsOnFetch() {
        RingGates g = new RingGates(2, 8, 4);
        check.yes("start in an undefined slot", g.start(1, 7, 3));
        check.due("run there", g.run(1), 0);
        check.process("there", g, RingGates.STATUS_FAULTED, RingGates.F_SEG, 3, Check.ic(1, 7), 0, 0);
        check.yes("start after a fault", g.start(0, 0, 0));
        check.process("started", g, RingGates.STATUS_READY, RingGates.F_NONE, 0, 0, 0, 0);
    }

    private static void stacksAreEmptyAfterStart() {
        RingGates g = new RingGates(2, 8, 4);
        for (int ring = 0; ring <= 7; ring++) {
            g.defineSegment(0, 8, 4, Check.brackets(ring, ring, ring));
            Check.program(g, 0, 0, Check.word(RingGates.OP_PUSH), Check.word(RingGates.OP_PUSH));
            g.start(0, 0, ring);
            g.run(2);
            check.due("pushed at ring " + ring, g.stackHeight(ring), 2);
            g.start(1, 0, 0);
            check.due("height after start", g.stackHeight(ring), 0);
            check.due("value after start", g.stackValue(ring, 0), 0);
        }
    }
}

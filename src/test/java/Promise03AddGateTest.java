import java.util.List;

/** Promise 3: addGate. */
public final class Promise03AddGateTest {
    private static final Check check = new Check("promise 3");

    public static void main(String[] args) {
        for (int status : Scene.STATUSES) {
            refusals(status);
            changesOneGateAlone(status);
        }
        fillsUp();
        everyFlag();
        check.end();
    }

    private static void refusals(int status) {
        int[][] wrong = {
            {-1, 0}, {4, 0}, {8, 0}, {Integer.MIN_VALUE, 0}, {Integer.MAX_VALUE, 0}, {Scene.UNDEFINED, 0},
            {Scene.GATED, -1}, {Scene.GATED, 12}, {Scene.GATED, Integer.MIN_VALUE},
            {Scene.GATED, Integer.MAX_VALUE}, {Scene.GATED, 5}, {Scene.GATED, 2}, {Scene.DATA, 16}};
        RingGates g = Scene.inStatus(status);
        List<String> before = Check.fullView(g);
        for (int[] w : wrong) {
            String what = "addGate " + w[0] + " " + w[1] + " in status " + status;
            check.no(what, g.addGate(w[0], w[1]));
            check.same(what, Check.fullView(g), before);
        }
    }

    private static void changesOneGateAlone(int status) {
        String what = "addGate in status " + status;
        RingGates g = Scene.inStatus(status);
        RingGates untouched = Scene.inStatus(status);
        int former = g.segment(Scene.GATED);
        check.yes(what, g.addGate(Scene.GATED, 11));
        check.due(what + ", segment", g.segment(Scene.GATED), former + (1 << 24));
        check.due(what + ", gate 0", g.gate(Scene.GATED, 0), 5);
        check.due(what + ", gate 1", g.gate(Scene.GATED, 1), 2);
        check.due(what + ", gate 2", g.gate(Scene.GATED, 2), 11);
        check.due(what + ", gate 3", g.gate(Scene.GATED, 3), -1);
        check.same(what, Check.processView(g), Check.processView(untouched));
        for (int off = 0; off < 16; off++) {
            check.due(what + ", word " + off, g.peek(Scene.GATED, off), untouched.peek(Scene.GATED, off));
        }
        for (int seg = 1; seg < 4; seg++) {
            check.same(what, Check.slotView(g, seg), Check.slotView(untouched, seg));
        }
    }

    private static void fillsUp() {
        RingGates g = new RingGates(8, 32, 4);
        for (int seg = 0; seg < 8; seg++) {
            g.defineSegment(seg, 32, 4, Check.brackets(0, 0, 7));
        }
        for (int index = 0; index < RingGates.MAX_GATES; index++) {
            for (int seg = 7; seg >= 0; seg--) {
                check.yes("gate " + index + " of " + seg, g.addGate(seg, 31 - index - seg));
                check.no("the same again", g.addGate(seg, 31 - index - seg));
            }
        }
        for (int seg = 0; seg < 8; seg++) {
            check.no("a fifth gate", g.addGate(seg, 0));
            check.no("a gate again in a full list", g.addGate(seg, 31 - seg));
            check.due("gate count", g.segment(seg) >> 24, 4);
            for (int index = 0; index < 4; index++) {
                check.due("gate " + index + " of " + seg, g.gate(seg, index), 31 - index - seg);
            }
        }
    }

    private static void everyFlag() {
        for (int flags = 0; flags <= 7; flags++) {
            RingGates g = new RingGates(2, 8, 4);
            g.defineSegment(1, 1, flags, 0);
            check.yes("a gate with flags " + flags, g.addGate(1, 0));
            check.no("beyond a length of 1", g.addGate(1, 1));
        }
    }
}

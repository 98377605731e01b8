import java.util.List;

/** Promise 2: defineSegment. */
public final class Promise02DefineSegmentTest {
    private static final Check check = new Check("promise 2");
    private static final int MIN = Integer.MIN_VALUE;
    private static final int MAX = Integer.MAX_VALUE;

    public static void main(String[] args) {
        everyBrackets();
        for (int status : Scene.STATUSES) {
            refusals(status);
            changesOneSlotAlone(status);
        }
        redefinition();
        redefinitionWhileRunning();
        check.end();
    }

    private static void everyBrackets() {
        RingGates g = new RingGates(2, 8, 4);
        for (int brackets = -20; brackets <= 9000; brackets++) {
            int r1 = brackets & 15;
            int r2 = brackets >> 4 & 15;
            int r3 = brackets >> 8 & 15;
            boolean due = brackets >= 0 && brackets <= 4095 && r1 <= r2 && r2 <= r3 && r3 <= 7;
            boolean got = g.defineSegment(0, 3, 5, brackets);
            check.due("define with brackets " + brackets, got ? 1 : 0, due ? 1 : 0);
            if (due) {
                check.due("segment with brackets " + brackets, g.segment(0),
                    3 | 5 << 8 | r1 << 12 | r2 << 16 | r3 << 20);
            }
        }
    }

    private static void refusals(int status) {
        int good = Check.brackets(1, 2, 3);
        int[][] wrong = {
            {-1, 8, 7, good}, {4, 8, 7, good}, {8, 8, 7, good}, {MIN, 8, 7, good}, {MAX, 8, 7, good},
            {0, 0, 7, good}, {0, -1, 7, good}, {0, 17, 7, good}, {0, MIN, 7, good}, {0, MAX, 7, good},
            {0, 8, -1, good}, {0, 8, 8, good}, {0, 8, MIN, good}, {0, 8, MAX, good},
            {0, 8, 7, -1}, {0, 8, 7, 4096}, {0, 8, 7, 4096 + good}, {0, 8, 7, MIN}, {0, 8, 7, MIN + good},
            {0, 8, 7, MAX}, {0, 8, 7, 4095}, {0, 8, 7, Check.brackets(0, 0, 8)},
            {0, 8, 7, Check.brackets(2, 1, 3)}, {0, 8, 7, Check.brackets(1, 3, 2)},
            {0, 8, 7, Check.brackets(8, 8, 8)}, {3, 17, 7, good}, {3, 8, 8, good}};
        RingGates g = Scene.inStatus(status);
        List<String> before = Check.fullView(g);
        for (int[] w : wrong) {
            String what = "define " + w[0] + " " + w[1] + " " + w[2] + " " + w[3] + " in status " + status;
            check.no(what, g.defineSegment(w[0], w[1], w[2], w[3]));
            check.same(what, Check.fullView(g), before);
        }
    }

    private static void changesOneSlotAlone(int status) {
        for (int seg = 0; seg < 4; seg++) {
            for (int length = 1; length <= 16; length += 5) {
                changesOneSlotAlone(status, seg, length);
            }
        }
    }

    private static void changesOneSlotAlone(int status, int seg, int length) {
        String what = "define " + seg + " with length " + length + " in status " + status;
        RingGates g = Scene.inStatus(status);
        RingGates untouched = Scene.inStatus(status);
        int flags = length & 7;
        check.yes(what, g.defineSegment(seg, length, flags, Check.brackets(2, 5, 7)));
        check.same(what, Check.processView(g), Check.processView(untouched));
        for (int other = 0; other < 4; other++) {
            if (other != seg) {
                check.same(what, Check.slotView(g, other), Check.slotView(untouched, other));
            }
        }
        check.due(what, g.segment(seg), length | flags << 8 | 2 << 12 | 5 << 16 | 7 << 20);
        check.due(what + ", gate 0", g.gate(seg, 0), -1);
        for (int off = 0; off < 16; off++) {
            check.due(what + ", word " + off, g.peek(seg, off), 0);
        }
    }

    private static void redefinition() {
        RingGates g = new RingGates(8, 32, 4);
        for (int seg = 0; seg < 8; seg++) {
            g.defineSegment(seg, 32, 7, Check.brackets(1, 2, 3));
            for (int off = 0; off < 32; off++) {
                g.poke(seg, off, 1000 + off);
            }
            for (int off = 4; off < 8; off++) {
                g.addGate(seg, off);
            }
        }
        check.yes("redefine shorter", g.defineSegment(3, 6, 1, Check.brackets(0, 0, 0)));
        check.due("redefined", g.segment(3), 6 | 1 << 8);
        check.yes("redefine longer again", g.defineSegment(3, 32, 7, Check.brackets(0, 0, 7)));
        for (int off = 0; off < 32; off++) {
            check.due("redefined word " + off, g.peek(3, off), 0);
            check.due("word " + off + " of the slot before", g.peek(2, off), 1000 + off);
            check.due("word " + off + " of the slot behind", g.peek(4, off), 1000 + off);
        }
        check.no("a former gate", g.access(3, 4, 7, RingGates.KIND_CALL));
        check.yes("a former gate is added anew", g.addGate(3, 7));
        check.due("it has index 0", g.gate(3, 0), 7);
        check.due("gates of the slot before", g.gate(2, 3), 7);
        check.due("gates of the slot behind", g.gate(4, 3), 7);
    }

    private static void redefinitionWhileRunning() {
        RingGates g = Scene.inStatus(RingGates.STATUS_READY);
        int ic = g.state(RingGates.S_IC);
        int count = g.state(RingGates.S_COUNT);
        check.yes("shorten the running segment", g.defineSegment(Scene.GATED, 3, 4, Check.brackets(1, 1, 6)));
        check.due("run after that", g.run(5), 0);
        check.process("after that", g, RingGates.STATUS_FAULTED, RingGates.F_BOUND, 1, ic, 22, count);
    }
}

/** Promise 3: addGate. */
public final class Promise03AddGateTest {
    private static final Check check = new Check("promise 3");

    public static void main(String[] args) {
        check.sentence("seg is a defined slot.", Promise03AddGateTest::definedSlot);
        check.sentence("0 <= off < L.", Promise03AddGateTest::offset);
        check.sentence("The slot has fewer than `MAX_GATES` gates.", Promise03AddGateTest::fullList);
        check.sentence("off is not already a gate of the slot.", Promise03AddGateTest::gateAlready);
        check.sentence("If any test fails, it answers false and changes nothing:",
            Promise03AddGateTest::refusalsChangeNothing);
        check.sentence("Otherwise off becomes the slot's gate with the next index (equal to the former gate count), "
            + "and it answers true.", Promise03AddGateTest::nextIndex);
        check.sentence("Nothing else changes: existing gates keep their indices, and words, flags, brackets "
            + "and process state are unchanged.", Promise03AddGateTest::nothingElse);
        check.end();
    }

    private static void refused(RingGates g, int seg, int off) {
        check.refused(g, "addGate(" + seg + ", " + off + ")", () -> g.addGate(seg, off));
    }

    private static void definedSlot() {
        for (int segments = 2; segments <= 8; segments++) {
            RingGates g = new RingGates(segments, 16, 4);
            refused(g, 0, 0);
            refused(g, segments - 1, 0);
            for (int seg : Code.outside(0, segments - 1)) {
                refused(g, seg, 0);
            }
            g.defineSegment(0, 8, 0, 0);
            g.defineSegment(segments - 1, 8, 7, 0);
            check.yes("the first slot", g.addGate(0, 0));
            check.yes("the last slot", g.addGate(segments - 1, 0));
        }
    }

    private static void offset() {
        for (int length = 1; length <= 32; length++) {
            RingGates g = new RingGates(2, 32, 4);
            g.defineSegment(1, length, 4, 0);
            for (int off : Code.outside(0, length - 1)) {
                refused(g, 1, off);
            }
            check.yes("the first word", g.addGate(1, 0));
            check.is("the last word", g.addGate(1, length - 1), length > 1);
        }
    }

    private static RingGates gated(int count) {
        RingGates g = new RingGates(8, 32, 4);
        for (int seg = 0; seg < 8; seg++) {
            g.defineSegment(seg, 32, 4, Code.brackets(0, 0, 7));
            for (int index = 0; index < count; index++) {
                g.addGate(seg, 31 - index - seg);
            }
        }
        return g;
    }

    private static void fullList() {
        for (int seg = 0; seg < 8; seg++) {
            RingGates g = gated(3);
            check.yes("the fourth gate", g.addGate(seg, 1));
            refused(g, seg, 0);
            refused(g, seg, 1);
            refused(g, seg, 31);
            check.due("the gate count", g.segment(seg) >> 24, RingGates.MAX_GATES);
        }
    }

    private static void gateAlready() {
        for (int count = 1; count <= 3; count++) {
            RingGates g = gated(count);
            for (int seg = 0; seg < 8; seg++) {
                for (int index = 0; index < count; index++) {
                    refused(g, seg, 31 - index - seg);
                }
            }
        }
        for (int seg = 0; seg < 8; seg++) {
            for (int other = 0; other < 8; other++) {
                check.is("a gate of slot " + other + " for " + seg, gated(1).addGate(seg, 31 - other), other != seg);
            }
        }
    }

    private static void refusalsChangeNothing() {
        for (int status : Scene.STATUSES) {
            RingGates g = Scene.inStatus(status);
            refused(g, -1, 0);
            refused(g, Scene.SLOTS, 0);
            refused(g, Scene.UNDEFINED, 0);
            refused(g, Scene.GATED, -1);
            refused(g, Scene.GATED, Scene.GATED_LENGTH);
            refused(g, Scene.GATED, 5);
            refused(g, Scene.GATED, 2);
            g.addGate(Scene.GATED, 0);
            g.addGate(Scene.GATED, 11);
            refused(g, Scene.GATED, 1);
            refused(g, Scene.GATED, 11);
        }
    }

    private static void nextIndex() {
        RingGates g = new RingGates(8, 32, 4);
        for (int seg = 0; seg < 8; seg++) {
            g.defineSegment(seg, 32, seg, Code.brackets(0, 0, 7));
        }
        int[] offsets = {31, 0, 17, 8};
        for (int index = 0; index < 4; index++) {
            for (int seg = 7; seg >= 0; seg--) {
                check.due("gate " + index + " before", g.gate(seg, index), -1);
                check.yes("gate " + index + " of " + seg, g.addGate(seg, offsets[index]));
                check.due("gate " + index + " of " + seg, g.gate(seg, index), offsets[index]);
                check.due("the gate count", g.segment(seg) >> 24, index + 1);
            }
        }
    }

    private static void nothingElse() {
        for (int status : Scene.STATUSES) {
            RingGates g = Scene.inStatus(status);
            View want = View.of(g).gate(Scene.GATED, 2, 11)
                .segment(Scene.GATED, g.segment(Scene.GATED) + (1 << 24));
            check.yes("a third gate in status " + status, g.addGate(Scene.GATED, 11));
            check.same("a third gate in status " + status, View.of(g), want);
            want.gate(Scene.GATED, 3, 0).segment(Scene.GATED, g.segment(Scene.GATED) + (1 << 24));
            check.yes("a fourth gate in status " + status, g.addGate(Scene.GATED, 0));
            check.same("a fourth gate in status " + status, View.of(g), want);
            want.gate(Scene.DATA, 0, 15).segment(Scene.DATA, g.segment(Scene.DATA) + (1 << 24));
            check.yes("a gate of data in status " + status, g.addGate(Scene.DATA, 15));
            check.same("a gate of data in status " + status, View.of(g), want);
        }
    }
}

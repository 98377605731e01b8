/** Promise 9: start. */
public final class Promise09StartTest {
    private static final Check check = new Check("promise 9");

    public static void main(String[] args) {
        check.sentence("`start(seg, off, ring)` is refused (answers false, no change) unless all of these hold:",
            Promise09StartTest::refusalsChangeNothing);
        check.sentence("0 <= seg < segments;", Promise09StartTest::slot);
        check.sentence("0 <= off < segWords;", Promise09StartTest::offset);
        check.sentence("0 <= ring <= 7.", Promise09StartTest::ring);
        check.sentence("seg need not be defined.", Promise09StartTest::undefinedSlot);
        check.sentence("Otherwise, in any status, it sets:", Promise09StartTest::everyStatus);
        check.sentence("status `STATUS_READY` and fault `F_NONE`;", Promise09StartTest::statusAndFault);
        check.sentence("R = ring and IC = (seg, off);", Promise09StartTest::ringAndCounter);
        check.sentence("A = 0;", Promise09StartTest::accumulator);
        check.sentence("P = Q = (0, 0, ring);", Promise09StartTest::pointers);
        check.sentence("no frames;", Promise09StartTest::noFrames);
        check.sentence("every ring stack height 0;", Promise09StartTest::emptyStacks);
        check.sentence("count 0.", Promise09StartTest::count);
        check.sentence("It then answers true.", Promise09StartTest::answersTrue);
        check.sentence("Segments are untouched.", Promise09StartTest::segmentsAreUntouched);
        check.end();
    }

    private static void refused(RingGates g, int seg, int off, int ring) {
        check.refused(g, "start(" + seg + ", " + off + ", " + ring + ")", () -> g.start(seg, off, ring));
    }

    private static RingGates started(int status, int seg, int off, int ring) {
        RingGates g = Scene.inStatus(status);
        check.yes("start(" + seg + ", " + off + ", " + ring + ") in status " + status, g.start(seg, off, ring));
        return g;
    }

    private static void refusalsChangeNothing() {
        for (int status : Scene.STATUSES) {
            RingGates g = Scene.inStatus(status);
            refused(g, -1, 0, 0);
            refused(g, Scene.SLOTS, 0, 0);
            refused(g, Scene.CODE, -1, 0);
            refused(g, Scene.CODE, Scene.WORDS, 0);
            refused(g, Scene.CODE, 0, -1);
            refused(g, Scene.CODE, 0, 8);
            refused(g, Integer.MIN_VALUE, Integer.MIN_VALUE, Integer.MIN_VALUE);
            refused(g, Integer.MAX_VALUE, Integer.MAX_VALUE, Integer.MAX_VALUE);
        }
    }

    private static void slot() {
        for (int segments = 2; segments <= 8; segments++) {
            RingGates g = new RingGates(segments, 16, 4);
            for (int seg : Code.outside(0, segments - 1)) {
                refused(g, seg, 0, 0);
            }
            check.yes("the first slot", g.start(0, 0, 0));
            check.yes("the last slot", g.start(segments - 1, 0, 0));
        }
    }

    /** The greatest length of the object is the bound, not the length of the segment. */
    private static void offset() {
        for (int segWords = 8; segWords <= 32; segWords++) {
            RingGates g = new RingGates(2, segWords, 4);
            g.defineSegment(0, 1, 7, 0);
            for (int off : Code.outside(0, segWords - 1)) {
                refused(g, 0, off, 0);
            }
            check.yes("the first word", g.start(0, 0, 0));
            check.yes("the last word, behind the length", g.start(0, segWords - 1, 0));
            check.due("its IC", g.state(RingGates.S_IC), segWords - 1);
        }
    }

    private static void ring() {
        RingGates g = new RingGates(2, 8, 4);
        for (int ring : Code.outside(0, 7)) {
            refused(g, 0, 0, ring);
        }
        check.yes("the least ring", g.start(0, 0, 0));
        check.yes("the greatest ring", g.start(0, 0, 7));
    }

    private static void undefinedSlot() {
        RingGates g = new RingGates(2, 8, 4);
        check.yes("start in an undefined slot", g.start(1, 7, 3));
        check.due("its status", g.state(RingGates.S_STATUS), RingGates.STATUS_READY);
        check.faults(g, "the first step there", RingGates.F_SEG);
    }

    private static void everyStatus() {
        View due = View.process(started(RingGates.STATUS_IDLE, Scene.CODE, 3, 5));
        for (int status : Scene.STATUSES) {
            RingGates g = started(status, Scene.CODE, 3, 5);
            check.same("the process started in status " + status, View.process(g), due);
        }
    }

    private static void statusAndFault() {
        for (int status : Scene.STATUSES) {
            RingGates g = started(status, Scene.CODE, 0, 4);
            check.due("the status after status " + status, g.state(RingGates.S_STATUS), RingGates.STATUS_READY);
            check.due("the fault after status " + status, g.state(RingGates.S_FAULT), RingGates.F_NONE);
        }
    }

    private static void ringAndCounter() {
        for (int status : Scene.STATUSES) {
            for (int seg = 0; seg < Scene.SLOTS; seg++) {
                for (int off = 0; off < Scene.WORDS; off += 5) {
                    for (int ring = 0; ring <= 7; ring++) {
                        RingGates g = started(status, seg, off, ring);
                        check.due("R", g.state(RingGates.S_RING), ring);
                        check.due("IC", g.state(RingGates.S_IC), Code.ic(seg, off));
                    }
                }
            }
        }
    }

    private static void accumulator() {
        for (int value : Code.INTS) {
            RingGates g = Code.withA(value);
            check.due("A before", g.state(RingGates.S_ACC), value);
            g.start(Code.CODE, 0, 0);
            check.due("A", g.state(RingGates.S_ACC), 0);
        }
    }

    private static void pointers() {
        for (int status : Scene.STATUSES) {
            for (int ring = 0; ring <= 7; ring++) {
                RingGates g = started(status, Scene.CODE, 0, ring);
                check.due("P", g.state(RingGates.S_P), Code.pointer(0, 0, ring));
                check.due("Q", g.state(RingGates.S_Q), Code.pointer(0, 0, ring));
            }
        }
    }

    private static void noFrames() {
        for (int depth = 4; depth <= 16; depth++) {
            RingGates g = Code.readyWithDepth(depth, 0, Code.op(RingGates.OP_CALL, Code.CODE, 0));
            check.reaches(g, depth);
            check.due("frames before", g.state(RingGates.S_DEPTH), depth);
            g.start(Code.CODE, 0, 0);
            check.due("frames", g.state(RingGates.S_DEPTH), 0);
            for (int level = 0; level < depth; level++) {
                check.due("frame(" + level + ", 0)", g.frame(level, 0), -1);
            }
            check.reaches(g, depth);
        }
    }

    private static void emptyStacks() {
        RingGates g = Code.ready(0);
        Code.put(g, Code.CODE, 0, Code.immediate(RingGates.OP_ADI, 5), Code.op(RingGates.OP_PUSH),
            Code.op(RingGates.OP_PUSH), Code.op(RingGates.OP_PUSH), Code.op(RingGates.OP_PUSH));
        for (int ring = 0; ring <= 7; ring++) {
            g.start(Code.CODE, 0, ring);
            check.reaches(g, 5);
            check.due("height before", g.stackHeight(ring), 4);
            g.start(Code.CODE, 0, 7 - ring);
            check.due("height of ring " + ring, g.stackHeight(ring), 0);
            check.due("value of ring " + ring, g.stackValue(ring, 0), 0);
        }
    }

    private static void count() {
        RingGates g = Code.ready(0, Code.op(RingGates.OP_JMP, 0, 0));
        g.run(256);
        check.due("count before", g.state(RingGates.S_COUNT), 256);
        g.start(Code.CODE, 0, 0);
        check.due("count", g.state(RingGates.S_COUNT), 0);
    }

    private static void answersTrue() {
        for (int status : Scene.STATUSES) {
            RingGates g = Scene.inStatus(status);
            check.yes("start in status " + status, g.start(Scene.SLOTS - 1, Scene.WORDS - 1, 7));
            check.yes("start once more", g.start(0, 0, 0));
        }
    }

    private static void segmentsAreUntouched() {
        for (int status : Scene.STATUSES) {
            for (int seg = 0; seg < Scene.SLOTS; seg++) {
                View before = View.slots(Scene.inStatus(status));
                check.same("the slots", View.slots(started(status, seg, 0, 7)), before);
            }
        }
    }
}

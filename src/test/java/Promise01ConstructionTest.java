/** Promise 1: construction and fresh state. */
public final class Promise01ConstructionTest {
    private static final Check check = new Check("promise 1");
    private static final int MIN = Integer.MIN_VALUE;
    private static final int MAX = Integer.MAX_VALUE;

    public static void main(String[] args) {
        check.sentence("`segments` is clamped to 2..8. It is the number of segment slots, numbered 0..segments-1.",
            Promise01ConstructionTest::slotsInRange);
        check.sentence("`segWords` is clamped to 8..32. It is the greatest length of a segment in words.",
            Promise01ConstructionTest::wordsInRange);
        check.sentence("`depth` is clamped to 4..16. It is the capacity of the frame stack, "
            + "and of each of the eight ring stacks.", Promise01ConstructionTest::depthInRange);
        check.sentence("A value below the least becomes the least", Promise01ConstructionTest::belowTheLeast);
        check.sentence("a value above the greatest becomes the greatest",
            Promise01ConstructionTest::aboveTheGreatest);
        check.sentence("status `STATUS_IDLE`;", () -> freshState(RingGates.S_STATUS, RingGates.STATUS_IDLE));
        check.sentence("fault code 0 (`F_NONE`);", () -> freshState(RingGates.S_FAULT, RingGates.F_NONE));
        check.sentence("R = 0, IC = (0, 0) and A = 0;", Promise01ConstructionTest::freshRegisters);
        check.sentence("P and Q both (0, 0, 0);", Promise01ConstructionTest::freshPointers);
        check.sentence("no frames;", Promise01ConstructionTest::noFrames);
        check.sentence("every ring stack height 0;", Promise01ConstructionTest::emptyStacks);
        check.sentence("count 0;", () -> freshState(RingGates.S_COUNT, 0));
        check.sentence("every slot undefined.", Promise01ConstructionTest::noSegments);
        check.sentence("The sizes never change after construction.", Promise01ConstructionTest::sizesStay);
        check.sentence("A fresh object has:", Promise01ConstructionTest::objectsAreApart);
        check.end();
    }

    private static RingGates[] freshObjects() {
        return new RingGates[] {new RingGates(4, 16, 8), new RingGates(2, 8, 4), new RingGates(8, 32, 16),
            new RingGates(MIN, 0, -1), new RingGates(MAX, 100, 17)};
    }

    private static int slotsOf(RingGates g) {
        int slots = 0;
        while (slots < 20 && g.defineSegment(slots, 1, 7, 0)) {
            slots++;
        }
        return slots;
    }

    private static int wordsOf(RingGates g) {
        int words = 0;
        while (words < 50 && g.defineSegment(0, words + 1, 7, 0)) {
            words++;
        }
        return words;
    }

    private static int framesOf(RingGates g) {
        g.defineSegment(0, 8, RingGates.FLAG_EXEC, 0);
        g.poke(0, 0, Code.op(RingGates.OP_CALL, 0, 0));
        g.start(0, 0, 0);
        g.run(100);
        return g.state(RingGates.S_DEPTH);
    }

    private static int stackOf(RingGates g, int ring) {
        g.defineSegment(0, 8, RingGates.FLAG_EXEC, Code.brackets(ring, ring, ring));
        Code.put(g, 0, 0, Code.op(RingGates.OP_PUSH), Code.op(RingGates.OP_JMP, 0, 0));
        g.start(0, 0, ring);
        g.run(100);
        return g.stackHeight(ring);
    }

    private static void sizesAre(RingGates g, String what, int slots, int words, int depth) {
        check.due(what + ", slots", slotsOf(g), slots);
        check.due(what + ", greatest length", wordsOf(g), words);
        check.due(what + ", frames", framesOf(g), depth);
        for (int ring = 0; ring <= 7; ring++) {
            check.due(what + ", capacity of ring " + ring, stackOf(g, ring), depth);
        }
    }

    private static void clamped(int segments, int segWords, int depth, int slots, int words, int capacity) {
        String what = "RingGates(" + segments + ", " + segWords + ", " + depth + ")";
        sizesAre(new RingGates(segments, segWords, depth), what, slots, words, capacity);
    }

    private static void slotsInRange() {
        for (int segments = 2; segments <= 8; segments++) {
            clamped(segments, 16, 8, segments, 16, 8);
            RingGates g = new RingGates(segments, 16, 8);
            check.yes("start in the first slot", g.start(0, 0, 0));
            check.yes("start in the last slot", g.start(segments - 1, 0, 0));
            check.no("start behind the last slot", g.start(segments, 0, 0));
            check.no("start before the first slot", g.start(-1, 0, 0));
        }
    }

    private static void wordsInRange() {
        for (int segWords = 8; segWords <= 32; segWords++) {
            clamped(4, segWords, 8, 4, segWords, 8);
            RingGates g = new RingGates(4, segWords, 8);
            check.yes("start at the last word", g.start(0, segWords - 1, 0));
            check.no("start behind the last word", g.start(0, segWords, 0));
        }
    }

    private static void depthInRange() {
        for (int depth = 4; depth <= 16; depth++) {
            clamped(4, 16, depth, 4, 16, depth);
        }
    }

    private static void belowTheLeast() {
        for (int segments : new int[] {1, 0, -1, -8, MIN}) {
            clamped(segments, 16, 8, 2, 16, 8);
        }
        for (int segWords : new int[] {7, 1, 0, -1, -32, MIN}) {
            clamped(4, segWords, 8, 4, 8, 8);
        }
        for (int depth : new int[] {3, 1, 0, -1, -16, MIN}) {
            clamped(4, 16, depth, 4, 16, 4);
        }
        clamped(MIN, MIN, MIN, 2, 8, 4);
    }

    private static void aboveTheGreatest() {
        for (int segments : new int[] {9, 10, 256, MAX}) {
            clamped(segments, 16, 8, 8, 16, 8);
        }
        for (int segWords : new int[] {33, 34, 256, MAX}) {
            clamped(4, segWords, 8, 4, 32, 8);
        }
        for (int depth : new int[] {17, 18, 256, MAX}) {
            clamped(4, 16, depth, 4, 16, 16);
        }
        clamped(MAX, MAX, MAX, 8, 32, 16);
    }

    private static void freshState(int which, int due) {
        for (RingGates g : freshObjects()) {
            check.due("state(" + which + ")", g.state(which), due);
        }
    }

    private static void freshRegisters() {
        freshState(RingGates.S_RING, 0);
        freshState(RingGates.S_IC, Code.ic(0, 0));
        freshState(RingGates.S_ACC, 0);
    }

    private static void freshPointers() {
        freshState(RingGates.S_P, Code.pointer(0, 0, 0));
        freshState(RingGates.S_Q, Code.pointer(0, 0, 0));
    }

    private static void noFrames() {
        freshState(RingGates.S_DEPTH, 0);
        for (RingGates g : freshObjects()) {
            for (int level = 0; level <= 16; level++) {
                check.due("frame(" + level + ", 0)", g.frame(level, 0), -1);
            }
        }
    }

    private static void emptyStacks() {
        for (RingGates g : freshObjects()) {
            for (int ring = 0; ring <= 7; ring++) {
                check.due("stackHeight(" + ring + ")", g.stackHeight(ring), 0);
                check.due("stackValue(" + ring + ", 0)", g.stackValue(ring, 0), 0);
            }
        }
    }

    private static void noSegments() {
        for (RingGates g : freshObjects()) {
            for (int seg = 0; seg <= 8; seg++) {
                int slot = seg;
                check.due("segment(" + seg + ")", g.segment(seg), -1);
                check.due("peek(" + seg + ", 0)", g.peek(seg, 0), 0);
                check.due("gate(" + seg + ", 0)", g.gate(seg, 0), -1);
                check.refused(g, "poke in slot " + seg, () -> g.poke(slot, 0, 1));
                check.refused(g, "addGate in slot " + seg, () -> g.addGate(slot, 0));
                for (int kind = 0; kind <= 3; kind++) {
                    check.no("access of slot " + seg, g.access(seg, 0, 0, kind));
                }
            }
        }
    }

    /** Neither refused and taken calls nor the making of other objects touch the sizes. */
    private static void sizesStay() {
        RingGates g = new RingGates(3, 9, 5);
        sizesAre(g, "first", 3, 9, 5);
        clamped(8, 32, 16, 8, 32, 16);
        clamped(2, 8, 4, 2, 8, 4);
        sizesAre(g, "after other objects", 3, 9, 5);
        g.defineSegment(7, 32, 7, 0);
        g.defineSegment(0, 32, 7, 0);
        g.start(7, 31, 0);
        g.defineSegment(1, 1, 7, 0);
        g.start(1, 0, 0);
        g.run(256);
        sizesAre(g, "after many calls", 3, 9, 5);
    }

    private static void objectsAreApart() {
        RingGates other = new RingGates(4, 16, 8);
        View before = View.of(other);
        RingGates one = new RingGates(4, 16, 8);
        one.defineSegment(0, 16, 7, 0);
        one.addGate(0, 3);
        Code.put(one, 0, 0, Code.op(RingGates.OP_PUSH), Code.op(RingGates.OP_CALL, 0, 0));
        one.start(0, 0, 0);
        check.reaches(one, 3);
        check.same("another object", View.of(other), before);
        check.same("a new object", View.of(new RingGates(4, 16, 8)), before);
    }
}

/** Promise 2: defineSegment. */
public final class Promise02DefineSegmentTest {
    private static final Check check = new Check("promise 2");
    private static final int GOOD = Code.brackets(1, 2, 3);

    public static void main(String[] args) {
        check.sentence("0 <= seg < segments.", Promise02DefineSegmentTest::slot);
        check.sentence("1 <= length <= segWords.", Promise02DefineSegmentTest::length);
        check.sentence("0 <= flags <= 7.", Promise02DefineSegmentTest::flags);
        check.sentence("0 <= brackets <= 4095 and, with", Promise02DefineSegmentTest::rangeOfBrackets);
        check.sentence("r1 = brackets&15, r2 = (brackets>>4)&15, r3 = (brackets>>8)&15, r1 <= r2 <= r3 <= 7.",
            Promise02DefineSegmentTest::orderOfBrackets);
        check.sentence("If any test fails, it answers false and changes nothing:",
            Promise02DefineSegmentTest::refusalsChangeNothing);
        check.sentence("Otherwise slot seg becomes defined, or redefined if it was already defined",
            Promise02DefineSegmentTest::definedAndRedefined);
        check.sentence("length L = length;", Promise02DefineSegmentTest::lengthIsKept);
        check.sentence("these flags and brackets;", Promise02DefineSegmentTest::flagsAndBracketsAreKept);
        check.sentence("all its words 0;", Promise02DefineSegmentTest::wordsAreZero);
        check.sentence("no gates.", Promise02DefineSegmentTest::noGates);
        check.sentence("It then answers true. This is allowed in every status.",
            Promise02DefineSegmentTest::everyStatus);
        check.sentence("Process state is untouched: status, fault, R, IC, A, P, Q, frames, ring stacks "
            + "and count are all unchanged.", Promise02DefineSegmentTest::processIsUntouched);
        check.sentence("Other slots are unchanged.", Promise02DefineSegmentTest::otherSlotsAreUnchanged);
        check.end();
    }

    private static void refused(RingGates g, int seg, int length, int flags, int brackets) {
        String what = "defineSegment(" + seg + ", " + length + ", " + flags + ", " + brackets + ")";
        check.refused(g, what, () -> g.defineSegment(seg, length, flags, brackets));
    }

    private static void slot() {
        for (int segments = 2; segments <= 8; segments++) {
            RingGates g = new RingGates(segments, 16, 4);
            check.yes("the first slot", g.defineSegment(0, 8, 7, GOOD));
            check.yes("the last slot", g.defineSegment(segments - 1, 8, 7, GOOD));
            for (int seg : Code.outside(0, segments - 1)) {
                refused(g, seg, 8, 7, GOOD);
            }
        }
    }

    private static void length() {
        for (int segWords = 8; segWords <= 32; segWords++) {
            RingGates g = new RingGates(2, segWords, 4);
            check.yes("one word", g.defineSegment(0, 1, 7, GOOD));
            check.due("its length", g.segment(0) & 255, 1);
            check.yes("all words", g.defineSegment(0, segWords, 7, GOOD));
            check.due("its length", g.segment(0) & 255, segWords);
            for (int length : Code.outside(1, segWords)) {
                refused(g, 0, length, 7, GOOD);
            }
        }
    }

    private static void flags() {
        RingGates g = new RingGates(2, 8, 4);
        for (int flags = 0; flags <= 7; flags++) {
            check.yes("flags " + flags, g.defineSegment(0, 8, flags, GOOD));
            check.due("the flags", g.segment(0) >> 8 & 15, flags);
        }
        for (int flags : Code.outside(0, 7)) {
            refused(g, 0, 8, flags, GOOD);
        }
    }

    private static void rangeOfBrackets() {
        RingGates g = new RingGates(2, 8, 4);
        check.yes("the least", g.defineSegment(0, 8, 7, 0));
        check.due("no ring above 0", g.segment(0), 8 | 7 << 8);
        check.yes("the greatest", g.defineSegment(0, 8, 7, Code.brackets(7, 7, 7)));
        check.due("all rings 7", g.segment(0), 8 | 7 << 8 | 7 << 12 | 7 << 16 | 7 << 20);
        for (int brackets : Code.outside(0, 4095)) {
            refused(g, 0, 8, 7, brackets);
        }
        for (int bit = 12; bit <= 31; bit++) {
            refused(g, 0, 8, 7, 1 << bit);
            refused(g, 0, 8, 7, 1 << bit | GOOD);
        }
        refused(g, 0, 8, 7, 4095);
        refused(g, 0, 8, 7, 4096 + GOOD);
    }

    private static void orderOfBrackets() {
        RingGates g = new RingGates(2, 8, 4);
        for (int brackets = 0; brackets <= 4095; brackets++) {
            int r1 = brackets % 16;
            int r2 = brackets / 16 % 16;
            int r3 = brackets / 256;
            if (r1 <= r2 && r2 <= r3 && r3 <= 7) {
                check.yes("brackets " + r1 + " " + r2 + " " + r3, g.defineSegment(0, 3, 5, brackets));
                check.due("the segment", g.segment(0), 3 | 5 << 8 | r1 << 12 | r2 << 16 | r3 << 20);
            } else {
                refused(g, 0, 3, 5, brackets);
            }
        }
    }

    private static void refusalsChangeNothing() {
        for (int status : Scene.STATUSES) {
            RingGates g = Scene.inStatus(status);
            for (int seg = 0; seg < Scene.SLOTS; seg++) {
                refused(g, seg, 0, 7, GOOD);
                refused(g, seg, 17, 7, GOOD);
                refused(g, seg, 8, -1, GOOD);
                refused(g, seg, 8, 8, GOOD);
                refused(g, seg, 8, 7, -1);
                refused(g, seg, 8, 7, 4096);
                refused(g, seg, 8, 7, Code.brackets(2, 1, 3));
                refused(g, seg, 8, 7, Code.brackets(1, 3, 2));
                refused(g, seg, 8, 7, Code.brackets(0, 0, 8));
            }
            refused(g, -1, 8, 7, GOOD);
            refused(g, Scene.SLOTS, 8, 7, GOOD);
            refused(g, Integer.MIN_VALUE, Integer.MIN_VALUE, Integer.MIN_VALUE, Integer.MIN_VALUE);
            refused(g, Integer.MAX_VALUE, Integer.MAX_VALUE, Integer.MAX_VALUE, Integer.MAX_VALUE);
        }
    }

    private static void definedAndRedefined() {
        RingGates g = new RingGates(8, 32, 4);
        for (int seg = 0; seg < 8; seg++) {
            check.due("before, segment", g.segment(seg), -1);
            check.yes("define", g.defineSegment(seg, 32 - seg, seg, Code.brackets(seg, 7, 7)));
            check.due("defined, segment", g.segment(seg), 32 - seg | seg << 8 | seg << 12 | 7 << 16 | 7 << 20);
            check.yes("redefine", g.defineSegment(seg, 1, 7 - seg, Code.brackets(0, 0, seg)));
            check.due("redefined, segment", g.segment(seg), 1 | 7 - seg << 8 | seg << 20);
        }
    }

    private static void lengthIsKept() {
        RingGates g = new RingGates(3, 32, 4);
        for (int length : new int[] {1, 32, 2, 31, 32, 1, 16, 8}) {
            g.defineSegment(1, length, 7, 0);
            check.due("the length", g.segment(1) & 255, length);
            check.yes("the last word", g.poke(1, length - 1, 5));
            check.no("the word behind it", g.poke(1, length, 5));
        }
    }

    private static void flagsAndBracketsAreKept() {
        RingGates g = new RingGates(3, 32, 4);
        for (int flags = 7; flags >= 0; flags--) {
            for (int r = 7; r >= 0; r--) {
                g.defineSegment(1, 8, flags, Code.brackets(r / 2, r, 7));
                check.due("the segment", g.segment(1), 8 | flags << 8 | r / 2 << 12 | r << 16 | 7 << 20);
                check.is("a read at r2", g.access(1, 0, r, RingGates.KIND_READ), (flags & 1) != 0);
                check.no("a read above r2", g.access(1, 0, r + 1, RingGates.KIND_READ));
            }
        }
    }

    private static RingGates filled() {
        RingGates g = new RingGates(8, 32, 4);
        for (int seg = 0; seg < 8; seg++) {
            g.defineSegment(seg, 32, 7, Code.brackets(0, 0, 7));
        }
        for (int seg = 0; seg < 8; seg++) {
            for (int off = 0; off < 32; off++) {
                g.poke(seg, off, 1000 * seg + off + 1);
            }
            for (int off = 28; off < 32; off++) {
                g.addGate(seg, off);
            }
        }
        return g;
    }

    /** Words behind a shorter length must not come back with a longer one. */
    private static void wordsAreZero() {
        for (int seg = 0; seg < 8; seg++) {
            RingGates g = filled();
            g.defineSegment(seg, 5, 7, GOOD);
            for (int off = 0; off < 5; off++) {
                check.due("a word of the shorter segment", g.peek(seg, off), 0);
            }
            g.poke(seg, 4, 9);
            g.defineSegment(seg, 32, 7, GOOD);
            for (int off = 0; off < 32; off++) {
                check.due("word " + off + " of the longer segment", g.peek(seg, off), 0);
            }
        }
    }

    private static void noGates() {
        for (int seg = 0; seg < 8; seg++) {
            RingGates g = filled();
            g.defineSegment(seg, 32, 7, Code.brackets(0, 0, 7));
            check.due("the gate count", g.segment(seg) >> 24, 0);
            for (int index = 0; index < 4; index++) {
                check.due("gate " + index, g.gate(seg, index), -1);
                check.no("a call of a former gate", g.access(seg, 28 + index, 7, RingGates.KIND_CALL));
            }
            check.yes("a former gate is added anew", g.addGate(seg, 31));
            check.due("its index is 0", g.gate(seg, 0), 31);
        }
    }

    private static void everyStatus() {
        for (int status : Scene.STATUSES) {
            for (int seg = 0; seg < Scene.SLOTS; seg++) {
                RingGates g = Scene.inStatus(status);
                check.yes("define " + seg + " in status " + status, g.defineSegment(seg, 3, 5, GOOD));
                check.due("the segment", g.segment(seg), 3 | 5 << 8 | 1 << 12 | 2 << 16 | 3 << 20);
            }
        }
    }

    private static void processIsUntouched() {
        for (int status : Scene.STATUSES) {
            for (int seg = 0; seg < Scene.SLOTS; seg++) {
                for (int length = 1; length <= Scene.WORDS; length += 5) {
                    RingGates g = Scene.inStatus(status);
                    View before = View.process(g);
                    g.defineSegment(seg, length, 0, GOOD);
                    check.same("define " + seg + " in status " + status, View.process(g), before);
                }
            }
        }
        RingGates g = Scene.inStatus(RingGates.STATUS_READY);
        g.defineSegment(Scene.GATED, 3, RingGates.FLAG_EXEC, Code.brackets(1, 1, 6));
        check.faults(g, "a step behind the new length of the running segment", RingGates.F_BOUND);
    }

    private static void otherSlotsAreUnchanged() {
        for (int seg = 0; seg < 8; seg++) {
            RingGates g = filled();
            View[] before = new View[8];
            for (int other = 0; other < 8; other++) {
                before[other] = View.slot(g, other);
            }
            g.defineSegment(seg, 32, 1, GOOD);
            for (int other = 0; other < 8; other++) {
                if (other != seg) {
                    check.same("slot " + other + " beside " + seg, View.slot(g, other), before[other]);
                }
            }
        }
    }
}

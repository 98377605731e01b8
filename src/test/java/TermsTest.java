/** The sections 'What it is' and 'Not promised', which belong to all promises. FaceTest has the constants. */
public final class TermsTest {
    private static final Check check = new Check("what it is");

    public static void main(String[] args) {
        check.sentence("Rings are 0..7, and ring 0 is the most privileged.", TermsTest::rings);
        check.sentence("Any violation stops the process with a precise fault code, and nothing else changes.",
            TermsTest::violations);
        check.sentence("A slot is undefined until `defineSegment` succeeds on it.", TermsTest::undefinedSlots);
        check.sentence("a length L (1..segWords) and words 0..L-1 (int);", TermsTest::lengths);
        check.sentence("flags, which are any OR of `FLAG_READ`, `FLAG_WRITE`, `FLAG_EXEC`;", TermsTest::flags);
        check.sentence("brackets r1 <= r2 <= r3, each 0..7;", TermsTest::brackets);
        check.sentence("0..`MAX_GATES` gate offsets, which are distinct, each < L, and numbered 0.. "
            + "in the order added.", TermsTest::gates);
        check.sentence("Pointer registers P and Q each hold (seg 0..255, off 0..255, ring 0..7).",
            TermsTest::pointers);
        check.sentence("Ring k's stack holds 0..depth ints.", TermsTest::ringStacks);
        check.sentence("It holds 0..depth frames.", TermsTest::frames);
        check.sentence("An IC is packed as seg*256+off. A pointer is packed as seg<<16 | off<<8 | ring.",
            TermsTest::packedForms);
        check.sentence("Values removed from a ring stack (by `OP_POP` or by the cut made at `OP_RET`) "
            + "cannot be observed through any method.", TermsTest::removedValues);
        check.end();
    }

    private static void rings() {
        for (int ring = 0; ring <= 7; ring++) {
            RingGates g = new RingGates(2, 8, 4);
            check.yes("a process of ring " + ring, g.start(0, 0, ring));
            g.defineSegment(0, 8, 7, Code.brackets(ring, ring, 7));
            for (int e = 0; e <= 7; e++) {
                check.is("ring " + e + " reads", g.access(0, 0, e, RingGates.KIND_READ), e <= ring);
                check.is("ring " + e + " writes", g.access(0, 0, e, RingGates.KIND_WRITE), e <= ring);
            }
        }
        check.no("a process of ring 8", new RingGates(2, 8, 4).start(0, 0, 8));
        check.no("a process of ring -1", new RingGates(2, 8, 4).start(0, 0, -1));
    }

    private static void violations() {
        RingGates g = Code.ready(6, Code.immediate(RingGates.OP_LDI, 5), Code.op(RingGates.OP_PUSH),
            Code.op(RingGates.OP_PTR, Code.FREE, 0));
        g.defineSegment(Code.FREE, 8, 3, Code.brackets(3, 5, 5));
        g.poke(Code.FREE, 0, 9);
        g.poke(Code.CODE, 3, Code.op(RingGates.OP_LD));
        check.reaches(g, 3);
        check.faults(g, "a read above the brackets", RingGates.F_READ);
        check.changesNothing(g, "a run after the fault", () -> check.due("it", g.run(256), 0));
    }

    private static void undefinedSlots() {
        for (int seg = 0; seg < 8; seg++) {
            RingGates g = new RingGates(8, 32, 4);
            check.due("a fresh slot", g.segment(seg), -1);
            g.defineSegment(seg, 33, 7, 0);
            g.defineSegment(seg, 0, 7, 0);
            g.defineSegment(seg, 8, 8, 0);
            g.defineSegment(seg, 8, 7, 4095);
            check.due("a slot after refused calls", g.segment(seg), -1);
            g.defineSegment((seg + 1) % 8, 8, 7, 0);
            check.due("a slot beside a defined one", g.segment(seg), -1);
            g.defineSegment(seg, 1, 0, 0);
            check.due("the least segment", g.segment(seg), 1);
        }
    }

    private static void lengths() {
        for (int length = 1; length <= 32; length++) {
            RingGates g = new RingGates(2, 32, 4);
            g.defineSegment(0, length, 7, 0);
            int words = 0;
            for (int off = -64; off <= 64; off++) {
                words += g.poke(0, off, Integer.MIN_VALUE + off) ? 1 : 0;
            }
            check.due("words of a segment", words, length);
            check.due("the first word", g.peek(0, 0), Integer.MIN_VALUE);
            check.due("the last word", g.peek(0, length - 1), Integer.MIN_VALUE + length - 1);
        }
    }

    private static void flags() {
        for (int flags = 0; flags <= 7; flags++) {
            RingGates g = new RingGates(2, 8, 4);
            g.defineSegment(1, 8, flags, 0);
            check.is("reading", g.access(1, 0, 0, RingGates.KIND_READ), (flags & RingGates.FLAG_READ) != 0);
            check.is("writing", g.access(1, 0, 0, RingGates.KIND_WRITE), (flags & RingGates.FLAG_WRITE) != 0);
            check.is("executing", g.access(1, 0, 0, RingGates.KIND_EXEC), (flags & RingGates.FLAG_EXEC) != 0);
            check.is("calling", g.access(1, 0, 0, RingGates.KIND_CALL), (flags & RingGates.FLAG_EXEC) != 0);
        }
    }

    private static void brackets() {
        RingGates g = new RingGates(2, 8, 4);
        for (int r1 = 0; r1 <= 8; r1++) {
            for (int r2 = 0; r2 <= 8; r2++) {
                for (int r3 = 0; r3 <= 8; r3++) {
                    check.is("brackets " + r1 + r2 + r3, g.defineSegment(0, 8, 7, Code.brackets(r1, r2, r3)),
                        r1 <= r2 && r2 <= r3 && r3 <= 7);
                }
            }
        }
    }

    /** Every offset is offered twice, from the last to the first: four are taken, once each. */
    private static void gates() {
        for (int length = 1; length <= 32; length++) {
            RingGates g = new RingGates(2, 32, 4);
            g.defineSegment(1, length, 4, 0);
            check.due("no gates at first", g.segment(1) >> 24, 0);
            for (int off = 40; off >= -1; off--) {
                g.addGate(1, off);
                g.addGate(1, off);
            }
            int count = Math.min(length, RingGates.MAX_GATES);
            check.due("gates of length " + length, g.segment(1) >> 24, count);
            for (int index = 0; index < count; index++) {
                check.due("gate " + index, g.gate(1, index), length - 1 - index);
            }
        }
    }

    private static void pointers() {
        for (int ring = 0; ring <= 7; ring += 7) {
            for (int value = 0; value <= 255; value++) {
                RingGates g = Code.ready(ring, Code.op(RingGates.OP_PTR, value, 255 - value),
                    Code.op(RingGates.OP_SWP), Code.op(RingGates.OP_PTR, 255 - value, value));
                check.reaches(g, 3);
                check.due("P", g.state(RingGates.S_P), Code.pointer(255 - value, value, ring));
                check.due("Q", g.state(RingGates.S_Q), Code.pointer(value, 255 - value, ring));
            }
        }
    }

    private static void ringStacks() {
        for (int depth = 4; depth <= 16; depth++) {
            RingGates g = Code.readyWithDepth(depth, 7, Code.op(RingGates.OP_PUSH), Code.op(RingGates.OP_JMP, 0, 0));
            check.due("at first", g.stackHeight(7), 0);
            g.run(256);
            check.due("at most", g.stackHeight(7), depth);
        }
    }

    private static void frames() {
        for (int depth = 4; depth <= 16; depth++) {
            RingGates g = Code.readyWithDepth(depth, 7, Code.op(RingGates.OP_CALL, Code.CODE, 0));
            check.due("at first", g.state(RingGates.S_DEPTH), 0);
            g.run(256);
            check.due("at most", g.state(RingGates.S_DEPTH), depth);
        }
    }

    private static void packedForms() {
        RingGates g = new RingGates(8, 32, 4);
        g.defineSegment(7, 32, RingGates.FLAG_EXEC, Code.brackets(7, 7, 7));
        g.poke(7, 31, Code.op(RingGates.OP_PTR, 1, 2));
        g.start(7, 31, 7);
        check.due("the IC of the last word of the last slot", g.state(RingGates.S_IC), 1823);
        check.reaches(g, 1);
        check.due("the IC behind it", g.state(RingGates.S_IC), 1824);
        check.due("P = (1, 2, 7)", g.state(RingGates.S_P), 66055);
        check.due("Q = (0, 0, 7)", g.state(RingGates.S_Q), 7);
    }

    /** Two processes that removed different values look the same, then and after the next PUSH. */
    private static void removedValues() {
        for (int ring = 0; ring <= 7; ring++) {
            RingGates popped = afterPop(ring, 5);
            RingGates otherPopped = afterPop(ring, 6);
            check.same("after POP", View.of(popped), View.of(otherPopped));
            check.due("the next PUSH", popped.run(1), otherPopped.run(1));
            check.same("after the next PUSH", View.of(popped), View.of(otherPopped));
            RingGates cut = afterCut(ring, 5);
            RingGates otherCut = afterCut(ring, 6);
            check.same("after RET", View.of(cut), View.of(otherCut));
            check.due("the next PUSH", cut.run(1), otherCut.run(1));
            check.same("after the next PUSH", View.of(cut), View.of(otherCut));
        }
    }

    /** The words that made the values are overwritten, so that only the stack could still tell them. */
    private static RingGates afterPop(int ring, int value) {
        RingGates g = Code.ready(ring, Code.immediate(RingGates.OP_LDI, value), Code.op(RingGates.OP_PUSH),
            Code.op(RingGates.OP_PUSH), Code.op(RingGates.OP_POP), Code.op(RingGates.OP_POP),
            Code.immediate(RingGates.OP_LDI, 1), Code.op(RingGates.OP_PUSH));
        check.reaches(g, 6);
        g.poke(Code.CODE, 0, 0);
        return g;
    }

    private static RingGates afterCut(int ring, int value) {
        RingGates g = Code.ready(ring, Code.op(RingGates.OP_CALL, Code.CODE, 3),
            Code.immediate(RingGates.OP_LDI, 1), Code.op(RingGates.OP_PUSH),
            Code.immediate(RingGates.OP_LDI, value), Code.op(RingGates.OP_PUSH), Code.op(RingGates.OP_PUSH),
            Code.op(RingGates.OP_RET));
        check.reaches(g, 6);
        g.poke(Code.CODE, 3, 0);
        return g;
    }
}

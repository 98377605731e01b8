/** Promise 10: the fetch and the decoding of a word. */
public final class Promise10FetchTest {
    private static final Check check = new Check("promise 10, fetch");

    public static void main(String[] args) {
        check.sentence("IC.seg is not a defined slot -> `F_SEG`.", Promise10FetchTest::noDefinedSlot);
        check.sentence("IC.off >= L -> `F_BOUND`.", Promise10FetchTest::beyondTheLength);
        check.sentence("The bracket rule `KIND_EXEC` at ring R fails -> `F_EXEC`.",
            Promise10FetchTest::everyFlagAndRing);
        check.sentence("It fetches the word at IC, applying these tests in order:", Promise10FetchTest::order);
        check.sentence("op = (w>>>16)&255, x = (w>>>8)&255, y = w&255, v = w&65535.", Promise10FetchTest::parts);
        check.sentence("Bits 24..31 are ignored.", Promise10FetchTest::highBits);
        check.sentence("'next' means IC.off becomes IC.off+1, with IC.seg unchanged.", Promise10FetchTest::next);
        check.sentence("**Any other op** -> `F_OPCODE`.", Promise10FetchTest::otherOps);
        check.end();
    }

    private static void noDefinedSlot() {
        for (int segments = 2; segments <= 8; segments++) {
            for (int seg = 0; seg < segments; seg++) {
                RingGates g = new RingGates(segments, 8, 4);
                for (int other = 0; other < segments; other++) {
                    if (other != seg) {
                        g.defineSegment(other, 8, 7, Code.brackets(0, 7, 7));
                    }
                }
                g.start(seg, 0, 0);
                check.faults(g, "slot " + seg + " of " + segments, RingGates.F_SEG);
                g.defineSegment(seg, 8, 7, Code.brackets(0, 7, 7));
                g.start(seg, 0, 0);
                check.completes(g, "slot " + seg + ", defined",
                    View.of(g).state(RingGates.S_STATUS, RingGates.STATUS_HALTED));
            }
        }
    }

    private static void beyondTheLength() {
        for (int length = 1; length <= 31; length++) {
            RingGates g = new RingGates(3, 32, 4);
            for (int seg = 0; seg <= 2; seg++) {
                g.defineSegment(seg, seg == 1 ? length : 32, 7, Code.brackets(0, 7, 7));
            }
            for (int off = length; off <= 31; off++) {
                g.start(1, off, 0);
                check.faults(g, "offset " + off + " with length " + length, RingGates.F_BOUND);
            }
            g.start(1, length - 1, 0);
            check.completes(g, "the last word", View.of(g).state(RingGates.S_STATUS, RingGates.STATUS_HALTED));
            g.start(1, 0, 0);
            check.completes(g, "the first word", View.of(g).state(RingGates.S_STATUS, RingGates.STATUS_HALTED));
        }
    }

    private static void everyFlagAndRing() {
        for (int flags = 0; flags <= 7; flags++) {
            for (int r1 = 0; r1 <= 7; r1++) {
                for (int r2 = r1; r2 <= 7; r2++) {
                    for (int ring = 0; ring <= 7; ring++) {
                        fetch(flags, r1, r2, ring);
                    }
                }
            }
        }
    }

    private static void fetch(int flags, int r1, int r2, int ring) {
        String what = "flags " + flags + " brackets " + r1 + r2 + " ring " + ring;
        RingGates g = new RingGates(2, 8, 4);
        g.defineSegment(1, 8, flags, Code.brackets(r1, r2, 7));
        g.addGate(1, 3);
        g.start(1, 3, ring);
        if ((flags & 4) != 0 && r1 <= ring && ring <= r2) {
            check.completes(g, what, View.of(g).state(RingGates.S_STATUS, RingGates.STATUS_HALTED));
        } else {
            check.faults(g, what, RingGates.F_EXEC);
        }
    }

    /** Every later test fails as well, in each of these. */
    private static void order() {
        RingGates g = new RingGates(2, 16, 4);
        g.defineSegment(0, 8, 0, 0);
        g.poke(0, 7, Code.op(16));
        g.start(1, 15, 7);
        check.faults(g, "an undefined slot", RingGates.F_SEG);
        g.start(0, 8, 7);
        check.faults(g, "beyond the length and not executable", RingGates.F_BOUND);
        g.start(0, 7, 7);
        check.faults(g, "not executable and no opcode", RingGates.F_EXEC);
        g.defineSegment(0, 8, RingGates.FLAG_EXEC, Code.brackets(0, 7, 7));
        g.poke(0, 7, Code.op(16));
        g.start(0, 7, 7);
        check.faults(g, "no opcode", RingGates.F_OPCODE);
    }

    private static void parts() {
        for (int x : new int[] {0, 1, 127, 128, 255}) {
            for (int y : new int[] {0, 1, 127, 128, 255}) {
                RingGates g = Code.ready(3, Code.op(RingGates.OP_PTR, x, y), Code.op(RingGates.OP_LDI, x, y));
                check.completes(g, "x = " + x + ", y = " + y,
                    View.of(g).next().state(RingGates.S_P, x * 65536 + y * 256 + 3));
                check.completes(g, "v = " + (x * 256 + y), View.of(g).next().state(RingGates.S_ACC, x * 256 + y));
            }
        }
    }

    private static void highBits() {
        for (int op = 0; op <= 16; op++) {
            for (int high : new int[] {1, 2, 127, 128, 255}) {
                RingGates plain = Code.ready(2, Code.op(op, Code.CODE, 3));
                RingGates marked = Code.ready(2, Code.op(op, Code.CODE, 3) | high << 24);
                check.due("op " + op + " with high bits " + high, marked.run(1), plain.run(1));
                check.same("op " + op + " with high bits " + high, View.process(marked), View.process(plain));
            }
        }
    }

    /** The IC goes on behind the last word of a segment, and not into the next slot. */
    private static void next() {
        for (int length = 1; length <= 32; length++) {
            RingGates g = new RingGates(8, 32, 4);
            for (int seg = 0; seg < 8; seg++) {
                g.defineSegment(seg, 32, RingGates.FLAG_EXEC, 0);
            }
            g.defineSegment(6, length, RingGates.FLAG_EXEC, 0);
            for (int off = 0; off < length; off++) {
                g.poke(6, off, Code.op(RingGates.OP_SWP));
            }
            g.start(6, 0, 0);
            for (int off = 0; off < length; off++) {
                check.completes(g, "word " + off, View.of(g).state(RingGates.S_IC, Code.ic(6, off + 1)));
            }
            check.faults(g, "behind the last word", RingGates.F_BOUND);
        }
    }

    private static void otherOps() {
        for (int op = 16; op <= 255; op++) {
            RingGates g = Code.ready(3, Code.immediate(RingGates.OP_LDI, 4), Code.op(op, Code.CODE, 1));
            check.reaches(g, 1);
            check.faults(g, "op " + op, RingGates.F_OPCODE);
        }
        for (int op = 0; op <= 15; op++) {
            RingGates g = Code.ready(3, Code.op(op, Code.CODE, 1));
            g.run(1);
            check.no("op " + op + " is one", g.state(RingGates.S_FAULT) == RingGates.F_OPCODE);
        }
    }
}

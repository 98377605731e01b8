/** Promise 10: the register, arithmetic and jump instructions. */
public final class Promise10RegistersTest {
    private static final Check check = new Check("promise 10, registers");
    private static final int[] IMMEDIATES = {0, 1, 255, 256, 257, 32767, 32768, 65534, 65535};
    private static final int MIN = Integer.MIN_VALUE;
    private static final int MAX = Integer.MAX_VALUE;

    public static void main(String[] args) {
        check.sentence("`OP_HLT`: status becomes `STATUS_HALTED`; IC unchanged.", Promise10RegistersTest::halt);
        check.sentence("`OP_LDI`: A = v (0..65535); next.", Promise10RegistersTest::loadImmediate);
        check.sentence("`OP_ADI`: A = A+v", Promise10RegistersTest::addImmediate);
        check.sentence("wrapping as 32-bit int arithmetic; next.", Promise10RegistersTest::additionWraps);
        check.sentence("`OP_PTR`: P = (x, y, R); next.", Promise10RegistersTest::makePointer);
        check.sentence("`OP_ADP`: P.off = (P.off+y)&255;", Promise10RegistersTest::offsetWraps);
        check.sentence("P.seg and P.ring unchanged; next.", Promise10RegistersTest::segAndRingStay);
        check.sentence("`OP_SWP`: exchange P and Q; next.", Promise10RegistersTest::swap);
        check.sentence("`OP_RNG`: A = R; next.", Promise10RegistersTest::currentRing);
        check.sentence("`OP_PRG`: A = P.ring; next.", Promise10RegistersTest::ringOfP);
        check.sentence("`OP_JMP`: IC.off = y, with IC.seg unchanged.", Promise10RegistersTest::jump);
        check.sentence("A target at or beyond L faults with `F_BOUND` on the next fetch.",
            Promise10RegistersTest::jumpBeyondTheLength);
        check.sentence("`OP_JZ`: if A == 0 then IC.off = y, else next.", Promise10RegistersTest::jumpIfZero);
        check.end();
    }

    private static void halt() {
        RingGates g = Code.ready(3, Code.immediate(RingGates.OP_LDI, 7), Code.op(RingGates.OP_HLT, 200, 100));
        check.reaches(g, 1);
        check.completes(g, "HLT", View.of(g).state(RingGates.S_STATUS, RingGates.STATUS_HALTED));
        check.due("a run after that", g.run(1), 0);
    }

    private static void loadImmediate() {
        for (int v : IMMEDIATES) {
            for (int former : Code.INTS) {
                RingGates g = Code.withA(former, Code.immediate(RingGates.OP_LDI, v));
                check.completes(g, "LDI " + v, View.of(g).next().state(RingGates.S_ACC, v));
            }
        }
    }

    private static void adds(int former, int v, int sum) {
        RingGates g = Code.withA(former, Code.immediate(RingGates.OP_ADI, v));
        check.due("A before ADI", g.state(RingGates.S_ACC), former);
        check.completes(g, former + " + " + v, View.of(g).next().state(RingGates.S_ACC, sum));
    }

    private static void addImmediate() {
        for (int v : IMMEDIATES) {
            adds(0, v, v);
            adds(100, v, 100 + v);
            adds(-100, v, v - 100);
            adds(-65535, v, v - 65535);
            adds(MAX - 65535, v, MAX - 65535 + v);
            adds(MIN, v, MIN + v);
        }
    }

    private static void additionWraps() {
        adds(MAX, 0, MAX);
        adds(MAX, 1, MIN);
        adds(MAX, 2, MIN + 1);
        adds(MAX, 65535, MIN + 65534);
        adds(MAX - 1, 1, MAX);
        adds(MAX - 65534, 65534, MAX);
        adds(MAX - 65534, 65535, MIN);
        adds(-1, 1, 0);
        adds(-1, 65535, 65534);
    }

    private static void makePointer() {
        for (int ring = 0; ring <= 7; ring++) {
            for (int x : new int[] {0, 1, 3, 4, 8, 128, 255}) {
                for (int y : new int[] {0, 1, 16, 32, 128, 255}) {
                    RingGates g = Code.ready(ring, Code.op(RingGates.OP_PTR, x, y));
                    check.completes(g, "PTR " + x + " " + y + " at ring " + ring,
                        View.of(g).next().state(RingGates.S_P, Code.pointer(x, y, ring)));
                }
            }
        }
    }

    private static RingGates withPointer(int seg, int off, int ring, int step) {
        RingGates g = Code.ready(ring, Code.op(RingGates.OP_PTR, seg, off), Code.op(RingGates.OP_ADP, 77, step));
        check.reaches(g, 1);
        return g;
    }

    private static void offsetWraps() {
        for (int off = 0; off <= 255; off += 5) {
            for (int step : new int[] {0, 1, 2, 127, 128, 254, 255, 255 - off, (256 - off) % 256}) {
                RingGates g = withPointer(4, off, 5, step);
                int due = off + step > 255 ? off + step - 256 : off + step;
                check.completes(g, off + " + " + step,
                    View.of(g).next().state(RingGates.S_P, Code.pointer(4, due, 5)));
            }
        }
    }

    private static void segAndRingStay() {
        for (int ring = 0; ring <= 7; ring++) {
            for (int seg : new int[] {0, 1, 127, 128, 254, 255}) {
                RingGates g = withPointer(seg, 255, ring, 1);
                check.reaches(g, 1);
                check.due("P", g.state(RingGates.S_P), Code.pointer(seg, 0, ring));
            }
        }
        RingGates g = calledWithPointer(6, 1, Code.op(RingGates.OP_SWP));
        Code.put(g, Code.FREE, 2, Code.op(RingGates.OP_PTR, 5, 5), Code.op(RingGates.OP_SWP),
            Code.op(RingGates.OP_ADP, 0, 255), Code.op(RingGates.OP_SWP), Code.op(RingGates.OP_ADP, 0, 255));
        check.reaches(g, 3);
        check.completes(g, "ADP of P of ring 6, with R = 1 and Q of ring 1",
            View.of(g).next().state(RingGates.S_P, Code.pointer(9, 7, 6)));
        check.reaches(g, 1);
        check.completes(g, "ADP of P of ring 1, with Q of ring 6",
            View.of(g).next().state(RingGates.S_P, Code.pointer(5, 4, 1)));
    }

    private static void swap() {
        RingGates g = Code.ready(5, Code.op(RingGates.OP_PTR, 255, 254), Code.op(RingGates.OP_SWP),
            Code.op(RingGates.OP_PTR, 7, 6), Code.op(RingGates.OP_SWP), Code.op(RingGates.OP_SWP));
        check.reaches(g, 1);
        check.completes(g, "the first SWP", View.of(g).next().state(RingGates.S_P, Code.pointer(0, 0, 5))
            .state(RingGates.S_Q, Code.pointer(255, 254, 5)));
        check.reaches(g, 1);
        check.completes(g, "the second SWP", View.of(g).next().state(RingGates.S_P, Code.pointer(255, 254, 5))
            .state(RingGates.S_Q, Code.pointer(7, 6, 5)));
        check.completes(g, "the third SWP", View.of(g).next().state(RingGates.S_P, Code.pointer(7, 6, 5))
            .state(RingGates.S_Q, Code.pointer(255, 254, 5)));
    }

    /** In a call from one ring into another, with P = (9, 8) of the caller's ring, before this word. */
    private static RingGates calledWithPointer(int ring, int entered, int word) {
        RingGates g = Code.ready(ring, Code.immediate(RingGates.OP_LDI, 1000), Code.op(RingGates.OP_PTR, 9, 8),
            Code.op(RingGates.OP_CALL, Code.FREE, 1));
        g.defineSegment(Code.FREE, 16, RingGates.FLAG_EXEC, Code.brackets(entered, entered, 7));
        g.addGate(Code.FREE, 1);
        g.poke(Code.FREE, 1, word);
        check.reaches(g, 3);
        return g;
    }

    private static void currentRing() {
        for (int ring = 0; ring <= 7; ring++) {
            for (int entered = 0; entered <= 7; entered++) {
                RingGates g = calledWithPointer(ring, entered, Code.op(RingGates.OP_RNG, 1, 2));
                check.completes(g, "RNG at ring " + entered, View.of(g).next().state(RingGates.S_ACC, entered));
            }
        }
    }

    private static void ringOfP() {
        for (int ring = 0; ring <= 7; ring++) {
            for (int entered = 0; entered <= 7; entered++) {
                RingGates g = calledWithPointer(ring, entered, Code.op(RingGates.OP_PRG, 1, 2));
                check.completes(g, "PRG of P of ring " + ring, View.of(g).next().state(RingGates.S_ACC, ring));
            }
        }
        RingGates g = calledWithPointer(6, 2, Code.op(RingGates.OP_PTR, 0, 0));
        g.poke(Code.FREE, 2, Code.op(RingGates.OP_PRG));
        check.reaches(g, 1);
        check.completes(g, "PRG of a new P", View.of(g).next().state(RingGates.S_ACC, 2));
    }

    private static void jump() {
        for (int y = 0; y <= 255; y++) {
            RingGates g = Code.ready(1, Code.op(RingGates.OP_SWP), Code.op(RingGates.OP_JMP, 3, y));
            check.reaches(g, 1);
            check.completes(g, "JMP " + y, View.of(g).state(RingGates.S_IC, Code.ic(Code.CODE, y)));
        }
    }

    private static void jumpBeyondTheLength() {
        for (int length = 1; length <= 32; length++) {
            for (int y : new int[] {length - 1, length, length + 1, 32, 254, 255}) {
                RingGates g = new RingGates(4, 32, 4);
                g.defineSegment(2, 32, RingGates.FLAG_EXEC, 0);
                g.defineSegment(1, length, RingGates.FLAG_EXEC, 0);
                g.poke(1, 0, Code.op(RingGates.OP_JMP, 0, y));
                g.start(1, 0, 0);
                check.completes(g, "the jump itself", View.of(g).state(RingGates.S_IC, Code.ic(1, y)));
                if (y >= length) {
                    check.faults(g, "the fetch at " + y + " with length " + length, RingGates.F_BOUND);
                } else {
                    check.due("the fetch of the last word", g.run(1), 1);
                }
            }
        }
    }

    private static void jumpIfZero() {
        for (int former : Code.INTS) {
            for (int y : new int[] {0, 1, 2, 15, 16, 255}) {
                RingGates g = Code.withA(former, Code.op(RingGates.OP_SWP), Code.op(RingGates.OP_JZ, 3, y));
                check.reaches(g, 1);
                View want = former == 0 ? View.of(g).state(RingGates.S_IC, Code.ic(Code.CODE, y)) : View.of(g).next();
                check.completes(g, "JZ " + y + " with A = " + former, want);
            }
        }
    }
}

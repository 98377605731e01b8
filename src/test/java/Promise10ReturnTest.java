/** Promise 10: RET. */
public final class Promise10ReturnTest {
    private static final Check check = new Check("promise 10, RET");
    private static final int TARGET = 3;
    private static final int ENTRY = 6;

    public static void main(String[] args) {
        check.sentence("**`OP_RET`:** with no frame -> `F_FRAMES`.", Promise10ReturnTest::noFrame);
        check.sentence("the height of the stack of ring R, taken before R is restored (this equals f.`FR_RING`), "
            + "becomes f.`FR_FLOOR`;", Promise10ReturnTest::cut);
        check.sentence("R = f.`FR_CALLER_RING`;", Promise10ReturnTest::callersRing);
        check.sentence("IC = (`FR_RETURN`/256, `FR_RETURN`%256);", Promise10ReturnTest::returnsBehindTheCall);
        check.sentence("P and Q = the saved values;", Promise10ReturnTest::savedPointers);
        check.sentence("f is removed.", Promise10ReturnTest::frameIsRemoved);
        check.sentence("A is unchanged.", Promise10ReturnTest::restIsUnchanged);
        check.end();
    }

    /** In a call from one ring into another, with P = (40, 50) and Q = (20, 30) of the caller, before these words. */
    private static RingGates called(int ring, int entered, int... words) {
        RingGates g = Code.ready(ring, Code.immediate(RingGates.OP_LDI, 70), Code.op(RingGates.OP_PUSH),
            Code.op(RingGates.OP_PTR, 20, 30), Code.op(RingGates.OP_SWP),
            Code.op(RingGates.OP_PTR, 40, 50), Code.op(RingGates.OP_CALL, TARGET, ENTRY));
        g.defineSegment(TARGET, 16, RingGates.FLAG_EXEC, Code.brackets(entered, entered, 7));
        g.addGate(TARGET, ENTRY);
        Code.put(g, TARGET, ENTRY, words);
        check.reaches(g, 6);
        return g;
    }

    private static void noFrame() {
        for (int ring = 0; ring <= 7; ring++) {
            RingGates g = Code.ready(ring, Code.op(RingGates.OP_PUSH), Code.op(RingGates.OP_RET));
            check.reaches(g, 1);
            check.faults(g, "RET with no call", RingGates.F_FRAMES);
            RingGates twice = called(ring, 0, Code.op(RingGates.OP_RET));
            twice.poke(Code.CODE, 6, Code.op(RingGates.OP_RET));
            check.reaches(twice, 1);
            check.faults(twice, "a second RET for one call", RingGates.F_FRAMES);
        }
    }

    private static void cut() {
        for (int ring = 0; ring <= 7; ring++) {
            for (int entered = 0; entered <= 7; entered++) {
                for (int values = 0; values <= 3; values++) {
                    RingGates g = called(ring, entered, Code.op(RingGates.OP_PUSH), Code.op(RingGates.OP_PUSH),
                        Code.op(RingGates.OP_PUSH));
                    g.poke(TARGET, ENTRY + values, Code.op(RingGates.OP_RET));
                    check.reaches(g, values + 1);
                    for (int k = 0; k <= 7; k++) {
                        check.due("height of ring " + k + " after a call into " + entered,
                            g.stackHeight(k), k == ring ? 1 : 0);
                    }
                    check.due("the caller's value", g.stackValue(ring, 0), 70);
                }
            }
        }
        cutOfOneRingAlone();
    }

    /** Ring 4 calls ring 2, which calls ring 4: each return cuts the stack of the ring that it leaves. */
    private static void cutOfOneRingAlone() {
        RingGates g = called(4, 2, Code.op(RingGates.OP_PUSH), Code.op(RingGates.OP_PUSH),
            Code.op(RingGates.OP_CALL, 0, 0), Code.op(RingGates.OP_RET));
        g.defineSegment(0, 8, RingGates.FLAG_EXEC, Code.brackets(4, 4, 4));
        Code.put(g, 0, 0, Code.op(RingGates.OP_PUSH), Code.op(RingGates.OP_PUSH), Code.op(RingGates.OP_PUSH),
            Code.op(RingGates.OP_RET));
        check.reaches(g, 6);
        check.due("ring 4 in the inner call", g.stackHeight(4), 4);
        check.reaches(g, 1);
        check.due("ring 4 after the inner return", g.stackHeight(4), 1);
        check.due("ring 2 after the inner return", g.stackHeight(2), 2);
        check.reaches(g, 1);
        check.due("ring 4 after the outer return", g.stackHeight(4), 1);
        check.due("ring 2 after the outer return", g.stackHeight(2), 0);
    }

    private static void callersRing() {
        for (int ring = 0; ring <= 7; ring++) {
            for (int entered = 0; entered <= 7; entered++) {
                RingGates g = called(ring, entered, Code.op(RingGates.OP_RET, 5, 5));
                check.due("R in the call", g.state(RingGates.S_RING), entered);
                check.reaches(g, 1);
                check.due("R after the return", g.state(RingGates.S_RING), ring);
            }
        }
    }

    private static void returnsBehindTheCall() {
        for (int seg = 0; seg < 8; seg++) {
            for (int off = 0; off < 32; off++) {
                RingGates g = new RingGates(8, 32, 4);
                int other = (seg + 1) % 8;
                g.defineSegment(seg, 32, RingGates.FLAG_EXEC, 0);
                g.defineSegment(other, 1, RingGates.FLAG_EXEC, 0);
                g.poke(seg, off, Code.op(RingGates.OP_CALL, other, 0));
                g.poke(other, 0, Code.op(RingGates.OP_RET));
                g.start(seg, off, 0);
                check.reaches(g, 2);
                check.due("IC after the return", g.state(RingGates.S_IC), Code.ic(seg, off + 1));
                if (off == 31) {
                    check.faults(g, "the fetch behind the last word", RingGates.F_BOUND);
                }
            }
        }
        intoAChangedSegment();
    }

    private static void intoAChangedSegment() {
        RingGates shorter = called(0, 0, Code.op(RingGates.OP_RET));
        shorter.defineSegment(Code.CODE, 6, RingGates.FLAG_EXEC, 0);
        check.reaches(shorter, 1);
        check.due("IC behind the new length", shorter.state(RingGates.S_IC), Code.ic(Code.CODE, 6));
        check.faults(shorter, "the fetch there", RingGates.F_BOUND);
        RingGates closed = called(5, 0, Code.op(RingGates.OP_RET));
        closed.defineSegment(Code.CODE, 16, RingGates.FLAG_EXEC, Code.brackets(0, 4, 7));
        check.reaches(closed, 1);
        check.faults(closed, "the fetch in a segment that is closed to the caller now", RingGates.F_EXEC);
    }

    private static void savedPointers() {
        for (int ring = 0; ring <= 7; ring++) {
            for (int entered = 0; entered <= 7; entered++) {
                RingGates g = called(ring, entered, Code.op(RingGates.OP_PTR, 255, 255), Code.op(RingGates.OP_SWP),
                    Code.op(RingGates.OP_PTR, 1, 2), Code.op(RingGates.OP_RET));
                check.reaches(g, 4);
                check.due("P", g.state(RingGates.S_P), Code.pointer(40, 50, ring));
                check.due("Q", g.state(RingGates.S_Q), Code.pointer(20, 30, ring));
            }
        }
        for (int lower = 0; lower <= 6; lower++) {
            RingGates g = called(lower, 7, Code.op(RingGates.OP_CALL, 0, 0));
            g.defineSegment(0, 8, RingGates.FLAG_EXEC, Code.brackets(7, 7, 7));
            g.poke(0, 0, Code.op(RingGates.OP_RET));
            check.reaches(g, 1);
            check.due("P as the call raised it", g.state(RingGates.S_P), Code.pointer(40, 50, 7));
            check.due("Q as the call raised it", g.state(RingGates.S_Q), Code.pointer(20, 30, 7));
            check.reaches(g, 1);
            check.due("P as it was saved", g.state(RingGates.S_P), Code.pointer(40, 50, lower));
            check.due("Q as it was saved", g.state(RingGates.S_Q), Code.pointer(20, 30, lower));
        }
    }

    private static void frameIsRemoved() {
        for (int depth = 4; depth <= 16; depth++) {
            RingGates g = Code.readyWithDepth(depth, 2, Code.op(RingGates.OP_CALL, Code.CODE, 0),
                Code.op(RingGates.OP_RET));
            check.reaches(g, depth);
            g.poke(Code.CODE, 0, Code.op(RingGates.OP_RET));
            for (int left = depth - 1; left >= 0; left--) {
                check.reaches(g, 1);
                check.due("frames", g.state(RingGates.S_DEPTH), left);
                check.due("the removed frame", g.frame(left, RingGates.FR_RETURN), -1);
                check.is("the frame before it stays", g.frame(left - 1, RingGates.FR_RETURN) >= 0, left > 0);
            }
            check.faults(g, "RET when all frames are removed", RingGates.F_FRAMES);
        }
    }

    /** A call and its return leave the IC, A and the count as the only differences. */
    private static void restIsUnchanged() {
        for (int ring = 0; ring <= 7; ring++) {
            for (int entered = 0; entered <= 7; entered++) {
                RingGates g = called(ring, entered, Code.immediate(RingGates.OP_LDI, 71), Code.op(RingGates.OP_PUSH),
                    Code.op(RingGates.OP_SWP), Code.op(RingGates.OP_RET));
                check.reaches(g, 3);
                View want = View.of(g).state(RingGates.S_RING, ring).state(RingGates.S_IC, Code.ic(Code.CODE, 6))
                    .state(RingGates.S_P, Code.pointer(40, 50, ring)).state(RingGates.S_Q, Code.pointer(20, 30, ring))
                    .state(RingGates.S_DEPTH, 0);
                int floor = ring == entered ? 1 : 0;
                want.height(entered, floor).value(entered, floor, 0);
                for (int field = 0; field <= 5; field++) {
                    want.frame(0, field, -1);
                }
                check.completes(g, "RET from ring " + entered + " to ring " + ring, want);
                check.due("A", g.state(RingGates.S_ACC), 71);
            }
        }
    }
}

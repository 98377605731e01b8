/** Objects with much in them, one for each status, so that a test can see that nothing else changes. */
final class Scene {
    static final int GATED = 0;
    static final int DATA = 1;
    static final int CODE = 2;
    static final int UNDEFINED = 3;
    static final int SLOTS = 4;
    static final int WORDS = 16;
    static final int GATED_LENGTH = 12;

    static final int[] STATUSES = {RingGates.STATUS_IDLE, RingGates.STATUS_READY,
        RingGates.STATUS_HALTED, RingGates.STATUS_FAULTED};

    private Scene() {
    }

    /** Slot 3 stays undefined; the process stands in a call of ring 1, with values on two ring stacks. */
    static RingGates inStatus(int status) {
        RingGates g = new RingGates(SLOTS, WORDS, 8);
        g.defineSegment(GATED, GATED_LENGTH, RingGates.FLAG_EXEC, Code.brackets(1, 1, 6));
        g.addGate(GATED, 5);
        g.addGate(GATED, 2);
        g.defineSegment(DATA, 16, RingGates.FLAG_READ | RingGates.FLAG_WRITE, Code.brackets(4, 5, 5));
        g.poke(DATA, 0, 77);
        g.poke(DATA, 15, -5);
        g.defineSegment(CODE, 16, RingGates.FLAG_EXEC, Code.brackets(3, 4, 4));
        Code.put(g, CODE, 0,
            Code.immediate(RingGates.OP_LDI, 11),
            Code.op(RingGates.OP_PUSH),
            Code.op(RingGates.OP_PTR, DATA, 15),
            Code.op(RingGates.OP_SWP),
            Code.op(RingGates.OP_PTR, DATA, 7),
            Code.op(RingGates.OP_CALL, GATED, 2));
        Code.put(g, GATED, 2,
            Code.immediate(RingGates.OP_LDI, 22),
            Code.op(RingGates.OP_PUSH),
            Code.op(RingGates.OP_PUSH),
            Code.op(lastOp(status)));
        if (status != RingGates.STATUS_IDLE) {
            g.start(CODE, 0, 4);
            g.run(status == RingGates.STATUS_READY ? 9 : 50);
        }
        if (g.state(RingGates.S_STATUS) != status) {
            throw new IllegalStateException("a scene has status " + g.state(RingGates.S_STATUS)
                + ", due is " + status);
        }
        return g;
    }

    private static int lastOp(int status) {
        return status == RingGates.STATUS_FAULTED ? 16 : RingGates.OP_HLT;
    }
}

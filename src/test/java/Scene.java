/** Objects with much in them, one for each status, so that a test can see that nothing else changes. */
final class Scene {
    static final int GATED = 0;
    static final int DATA = 1;
    static final int CODE = 2;
    static final int UNDEFINED = 3;

    static final int[] STATUSES = {RingGates.STATUS_IDLE, RingGates.STATUS_READY,
        RingGates.STATUS_HALTED, RingGates.STATUS_FAULTED};

    /** Slot 3 stays undefined; the process stands in a call of ring 1, with values on two ring stacks. */
    static RingGates inStatus(int status) {
        RingGates g = new RingGates(4, 16, 8);
        g.defineSegment(GATED, 12, RingGates.FLAG_EXEC, Check.brackets(1, 1, 6));
        g.addGate(GATED, 5);
        g.addGate(GATED, 2);
        g.defineSegment(DATA, 16, RingGates.FLAG_READ | RingGates.FLAG_WRITE, Check.brackets(4, 5, 5));
        g.poke(DATA, 0, 77);
        g.poke(DATA, 15, -5);
        g.defineSegment(CODE, 16, RingGates.FLAG_EXEC, Check.brackets(3, 4, 4));
        Check.program(g, CODE, 0,
            Check.immediate(RingGates.OP_LDI, 11),
            Check.word(RingGates.OP_PUSH),
            Check.word(RingGates.OP_PTR, DATA, 15),
            Check.word(RingGates.OP_SWP),
            Check.word(RingGates.OP_PTR, DATA, 7),
            Check.word(RingGates.OP_CALL, GATED, 2));
        Check.program(g, GATED, 2,
            Check.immediate(RingGates.OP_LDI, 22),
            Check.word(RingGates.OP_PUSH),
            Check.word(RingGates.OP_PUSH),
            Check.word(lastOp(status)));
        if (status != RingGates.STATUS_IDLE) {
            g.start(CODE, 0, 4);
            g.run(status == RingGates.STATUS_READY ? 9 : 50);
        }
        if (g.state(RingGates.S_STATUS) != status) {
            System.out.println("a scene has status " + g.state(RingGates.S_STATUS) + ", due is " + status);
            System.exit(1);
        }
        return g;
    }

    private static int lastOp(int status) {
        return status == RingGates.STATUS_FAULTED ? 16 : RingGates.OP_HLT;
    }

    private Scene() {
    }
}

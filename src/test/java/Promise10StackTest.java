/** Promise 10: PUSH and POP. */
public final class Promise10StackTest {
    private static final Check check = new Check("promise 10, ring stacks");

    public static void main(String[] args) {
        for (int ring = 0; ring <= 7; ring++) {
            for (int depth = 4; depth <= 16; depth++) {
                fullAndEmpty(ring, depth);
            }
        }
        floorOfTheSameRing();
        floorOfAnotherRing();
        floorOfTheInnermostFrame();
        check.end();
    }

    private static void fullAndEmpty(int ring, int depth) {
        String what = "ring " + ring + ", depth " + depth;
        RingGates g = new RingGates(2, 8, depth);
        g.defineSegment(0, 8, RingGates.FLAG_EXEC, Check.brackets(0, 7, 7));
        Check.program(g, 0, 0, Check.immediate(RingGates.OP_ADI, 3), Check.word(RingGates.OP_PUSH, 1, 1),
            Check.word(RingGates.OP_JMP, 0, 0));
        g.start(0, 0, ring);
        for (int i = 0; i < depth; i++) {
            check.due(what + ", PUSH", g.run(2), 2);
            check.process(what, g, RingGates.STATUS_READY, 0, ring, 2, 3 * i + 3, 3 * i + 2);
            check.due(what + ", height", g.stackHeight(ring), i + 1);
            check.due(what + ", top", g.stackValue(ring, i), 3 * i + 3);
            check.due(what + ", bottom", g.stackValue(ring, 0), 3);
            check.due(what + ", JMP", g.run(1), 1);
        }
        for (int other = 0; other <= 7; other++) {
            check.due(what + ", height of " + other, g.stackHeight(other), other == ring ? depth : 0);
        }
        g.run(1);
        check.faults(g, what + ", PUSH on a full stack", RingGates.F_STACK);
        emptied(ring, depth);
    }

    private static void emptied(int ring, int depth) {
        String what = "ring " + ring + ", depth " + depth;
        RingGates g = new RingGates(2, 8, depth);
        g.defineSegment(0, 8, RingGates.FLAG_EXEC, Check.brackets(0, 7, 7));
        Check.program(g, 0, 0, Check.immediate(RingGates.OP_ADI, 3), Check.word(RingGates.OP_PUSH),
            Check.word(RingGates.OP_JMP, 0, 0));
        g.start(0, 0, ring);
        g.run(3 * depth);
        Check.program(g, 0, 0, Check.word(RingGates.OP_POP, 2, 2), Check.word(RingGates.OP_JMP, 0, 0));
        for (int i = depth; i > 0; i--) {
            int count = g.state(RingGates.S_COUNT);
            check.due(what + ", POP", g.run(1), 1);
            check.process(what + ", POP", g, RingGates.STATUS_READY, 0, ring, 1, 3 * i, count + 1);
            check.due(what + ", height", g.stackHeight(ring), i - 1);
            check.due(what + ", the removed value", g.stackValue(ring, i - 1), 0);
            check.due(what + ", JMP", g.run(1), 1);
        }
        check.faults(g, what + ", POP of an empty stack", RingGates.F_STACK);
    }

    private static void floorOfTheSameRing() {
        RingGates g = new RingGates(2, 16, 4);
        g.defineSegment(0, 16, RingGates.FLAG_EXEC, Check.brackets(0, 7, 7));
        Check.program(g, 0, 0, Check.immediate(RingGates.OP_LDI, 8), Check.word(RingGates.OP_PUSH),
            Check.word(RingGates.OP_CALL, 0, 8), Check.word(RingGates.OP_POP));
        Check.program(g, 0, 8, Check.immediate(RingGates.OP_LDI, 9), Check.word(RingGates.OP_PUSH),
            Check.word(RingGates.OP_POP), Check.word(RingGates.OP_POP));
        g.start(0, 0, 3);
        check.due("down to the floor", g.run(6), 6);
        check.due("A", g.state(RingGates.S_ACC), 9);
        check.faults(g, "POP below the floor of the same ring", RingGates.F_STACK);
        g.poke(0, 11, Check.word(RingGates.OP_RET));
        g.start(0, 0, 3);
        check.due("and back", g.run(8), 8);
        check.due("the caller's value", g.state(RingGates.S_ACC), 8);
        check.due("height", g.stackHeight(3), 0);
    }

    private static void floorOfAnotherRing() {
        RingGates g = new RingGates(2, 16, 4);
        g.defineSegment(0, 16, RingGates.FLAG_EXEC, Check.brackets(4, 4, 4));
        g.defineSegment(1, 16, RingGates.FLAG_EXEC, Check.brackets(2, 2, 4));
        g.addGate(1, 0);
        Check.program(g, 0, 0, Check.word(RingGates.OP_PUSH), Check.word(RingGates.OP_PUSH),
            Check.word(RingGates.OP_CALL, 1, 0));
        Check.program(g, 1, 0, Check.word(RingGates.OP_POP));
        g.start(0, 0, 4);
        g.run(3);
        check.due("the floor is of the entered ring", g.frame(0, RingGates.FR_FLOOR), 0);
        check.faults(g, "POP of the callee's empty stack", RingGates.F_STACK);
        g.poke(1, 0, Check.immediate(RingGates.OP_LDI, 5));
        Check.program(g, 1, 1, Check.word(RingGates.OP_PUSH), Check.immediate(RingGates.OP_LDI, 6),
            Check.word(RingGates.OP_POP));
        g.start(0, 0, 4);
        check.due("the callee's own stack", g.run(7), 7);
        check.due("A", g.state(RingGates.S_ACC), 5);
        check.due("the caller's stack", g.stackHeight(4), 2);
    }

    /** Ring 4 calls down to ring 2, which calls up to ring 4 again: the first frame's floor is not asked. */
    private static void floorOfTheInnermostFrame() {
        RingGates g = new RingGates(2, 16, 4);
        g.defineSegment(0, 16, RingGates.FLAG_EXEC, Check.brackets(4, 4, 4));
        g.defineSegment(1, 16, RingGates.FLAG_EXEC, Check.brackets(2, 2, 4));
        g.addGate(1, 0);
        Check.program(g, 0, 0, Check.word(RingGates.OP_PUSH), Check.word(RingGates.OP_PUSH),
            Check.word(RingGates.OP_CALL, 1, 0));
        Check.program(g, 1, 0, Check.word(RingGates.OP_PUSH), Check.word(RingGates.OP_CALL, 0, 8));
        Check.program(g, 0, 8, Check.word(RingGates.OP_PUSH), Check.word(RingGates.OP_POP),
            Check.word(RingGates.OP_POP));
        g.start(0, 0, 4);
        check.due("to the second call and down to its floor", g.run(7), 7);
        check.due("ring", g.state(RingGates.S_RING), 4);
        check.due("outer floor", g.frame(0, RingGates.FR_FLOOR), 0);
        check.due("inner floor", g.frame(1, RingGates.FR_FLOOR), 2);
        check.faults(g, "POP below the innermost floor", RingGates.F_STACK);
    }
}

/** Promise 10: PUSH and POP. */
public final class Promise10StackTest {
    private static final Check check = new Check("promise 10, ring stacks");

    public static void main(String[] args) {
        check.sentence("`OP_PUSH`: if ring R's stack holds depth values -> `F_STACK`.", Promise10StackTest::full);
        check.sentence("Otherwise A is pushed on it; next.", Promise10StackTest::push);
        check.sentence("floor is `FR_FLOOR` of the innermost frame,", Promise10StackTest::floorOfTheInnermost);
        check.sentence("or 0 with no frame.", Promise10StackTest::noFrame);
        check.sentence("If the height of ring R's stack <= floor -> `F_STACK`.", Promise10StackTest::atTheFloor);
        check.sentence("Otherwise A = its top value, which is removed; next.", Promise10StackTest::pop);
        check.end();
    }

    /** A process of ring R that has pushed so many values 3, 6, 9 .., with A = 1000, before these words. */
    private static RingGates pushed(int depth, int ring, int values, int... words) {
        RingGates g = Code.readyWithDepth(depth, ring, Code.immediate(RingGates.OP_ADI, 3),
            Code.op(RingGates.OP_PUSH), Code.op(RingGates.OP_JMP, 0, 0));
        if (values > 0) {
            check.reaches(g, 3 * values);
        }
        g.poke(Code.CODE, 0, Code.immediate(RingGates.OP_LDI, 1000));
        Code.put(g, Code.CODE, 1, words);
        check.reaches(g, 1);
        return g;
    }

    private static void full() {
        for (int depth = 4; depth <= 16; depth++) {
            for (int ring = 0; ring <= 7; ring++) {
                RingGates g = pushed(depth, ring, depth - 1, Code.op(RingGates.OP_PUSH), Code.op(RingGates.OP_PUSH));
                check.completes(g, "the last PUSH of depth " + depth,
                    View.of(g).next().height(ring, depth).value(ring, depth - 1, 1000));
                check.faults(g, "PUSH on a full stack of depth " + depth, RingGates.F_STACK);
            }
        }
        fullStackOfAnotherRing();
    }

    private static void fullStackOfAnotherRing() {
        RingGates g = pushed(4, 6, 4, Code.op(RingGates.OP_CALL, Code.FREE, 0));
        g.defineSegment(Code.FREE, 8, RingGates.FLAG_EXEC, Code.brackets(5, 5, 7));
        g.addGate(Code.FREE, 0);
        g.poke(Code.FREE, 0, Code.op(RingGates.OP_PUSH));
        check.reaches(g, 1);
        check.completes(g, "PUSH beside a full stack", View.of(g).next().height(5, 1).value(5, 0, 1000));
    }

    private static void push() {
        for (int ring = 0; ring <= 7; ring++) {
            for (int values = 0; values < 16; values++) {
                RingGates g = pushed(16, ring, values, Code.op(RingGates.OP_PUSH, 1, 1));
                check.completes(g, "PUSH at height " + values,
                    View.of(g).next().height(ring, values + 1).value(ring, values, 1000));
            }
        }
        for (int value : Code.INTS) {
            RingGates g = Code.withA(value, Code.op(RingGates.OP_PUSH));
            check.completes(g, "PUSH of " + value, View.of(g).next().height(0, 1).value(0, 0, value));
        }
    }

    /** Ring 4 calls down to ring 2, which calls up to ring 4 again: the outer frame's floor is not asked. */
    private static void floorOfTheInnermost() {
        RingGates g = pushed(8, 4, 2, Code.op(RingGates.OP_CALL, Code.FREE, 0));
        g.defineSegment(Code.FREE, 8, RingGates.FLAG_EXEC, Code.brackets(2, 2, 7));
        g.defineSegment(0, 8, RingGates.FLAG_EXEC, Code.brackets(4, 4, 7));
        g.addGate(Code.FREE, 0);
        Code.put(g, Code.FREE, 0, Code.op(RingGates.OP_PUSH), Code.op(RingGates.OP_CALL, 0, 0),
            Code.op(RingGates.OP_POP), Code.op(RingGates.OP_POP));
        Code.put(g, 0, 0, Code.op(RingGates.OP_PUSH), Code.op(RingGates.OP_POP), Code.op(RingGates.OP_POP));
        check.reaches(g, 4);
        check.due("the outer floor", g.frame(0, RingGates.FR_FLOOR), 0);
        check.due("the inner floor", g.frame(1, RingGates.FR_FLOOR), 2);
        check.completes(g, "POP above the inner floor", View.of(g).next().height(4, 2).value(4, 2, 0));
        check.faults(g, "POP at the inner floor", RingGates.F_STACK);
        returnsToTheOuterFloor();
    }

    private static void returnsToTheOuterFloor() {
        RingGates g = pushed(8, 4, 2, Code.op(RingGates.OP_CALL, Code.CODE, 2), Code.op(RingGates.OP_PUSH),
            Code.op(RingGates.OP_CALL, Code.CODE, 6), Code.op(RingGates.OP_POP), Code.op(RingGates.OP_POP),
            Code.op(RingGates.OP_RET));
        check.reaches(g, 3);
        check.due("the inner floor", g.frame(1, RingGates.FR_FLOOR), 3);
        check.reaches(g, 1);
        check.completes(g, "POP above the outer floor", View.of(g).next().height(4, 2).value(4, 2, 0));
        check.faults(g, "POP at the outer floor", RingGates.F_STACK);
    }

    private static void noFrame() {
        for (int ring = 0; ring <= 7; ring++) {
            RingGates g = pushed(4, ring, 1, Code.op(RingGates.OP_POP), Code.op(RingGates.OP_POP));
            check.completes(g, "POP of the only value", View.of(g).next().state(RingGates.S_ACC, 3)
                .height(ring, 0).value(ring, 0, 0));
            check.faults(g, "POP of an empty stack", RingGates.F_STACK);
            check.faults(pushed(4, ring, 0, Code.op(RingGates.OP_POP)), "POP of a new stack", RingGates.F_STACK);
        }
        RingGates g = pushed(4, 3, 2, Code.op(RingGates.OP_CALL, Code.CODE, 5), Code.op(RingGates.OP_POP),
            Code.op(RingGates.OP_POP), Code.op(RingGates.OP_POP), Code.op(RingGates.OP_RET));
        check.reaches(g, 4);
        check.due("the floor of a call that is over", g.stackHeight(3), 0);
        check.faults(g, "POP of a stack emptied after a call", RingGates.F_STACK);
    }

    private static void atTheFloor() {
        for (int values = 0; values <= 15; values++) {
            RingGates g = pushed(16, 3, values, Code.op(RingGates.OP_CALL, Code.CODE, 2), Code.op(RingGates.OP_PUSH),
                Code.op(RingGates.OP_POP), Code.op(RingGates.OP_POP));
            check.reaches(g, 2);
            check.due("the floor", g.frame(0, RingGates.FR_FLOOR), values);
            check.completes(g, "POP one above the floor " + values, View.of(g).next()
                .height(3, values).value(3, values, 0));
            check.faults(g, "POP at the floor " + values, RingGates.F_STACK);
        }
        RingGates g = pushed(16, 3, 16, Code.op(RingGates.OP_CALL, Code.CODE, 2), Code.op(RingGates.OP_POP));
        check.reaches(g, 1);
        check.faults(g, "POP at the floor of a full stack", RingGates.F_STACK);
        emptyStackOfTheCallee();
    }

    private static void emptyStackOfTheCallee() {
        RingGates g = pushed(4, 4, 2, Code.op(RingGates.OP_CALL, Code.FREE, 0));
        g.defineSegment(Code.FREE, 8, RingGates.FLAG_EXEC, Code.brackets(2, 2, 7));
        g.addGate(Code.FREE, 0);
        g.poke(Code.FREE, 0, Code.op(RingGates.OP_POP));
        check.reaches(g, 1);
        check.faults(g, "POP of the callee's empty stack", RingGates.F_STACK);
    }

    private static void pop() {
        for (int ring = 0; ring <= 7; ring++) {
            for (int values = 1; values <= 16; values++) {
                RingGates g = pushed(16, ring, values, Code.op(RingGates.OP_POP, 2, 2));
                check.completes(g, "POP at height " + values, View.of(g).next().state(RingGates.S_ACC, 3 * values)
                    .height(ring, values - 1).value(ring, values - 1, 0));
            }
        }
        for (int value : Code.INTS) {
            RingGates g = Code.withA(value, Code.op(RingGates.OP_PUSH), Code.immediate(RingGates.OP_LDI, 1),
                Code.op(RingGates.OP_POP));
            check.reaches(g, 2);
            check.completes(g, "POP of " + value, View.of(g).next().state(RingGates.S_ACC, value)
                .height(0, 0).value(0, 0, 0));
        }
    }
}

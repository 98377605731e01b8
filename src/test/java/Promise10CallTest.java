import java.util.List;

/** Promise 10: CALL and RET, over every bracket and ring. */
public final class Promise10CallTest {
    private static final Check check = new Check("promise 10, calls");
    private static final int CODE = 1;
    private static final int TARGET = 3;
    private static final int GATE = 6;
    private static final int PLAIN = 5;
    private static final int LENGTH = 7;

    public static void main(String[] args) {
        for (int r1 = 0; r1 <= 7; r1++) {
            for (int r2 = r1; r2 <= 7; r2++) {
                for (int r3 = r2; r3 <= 7; r3++) {
                    everyRing(r1, r2, r3);
                }
            }
        }
        orderOfTests();
        depthOfFrames();
        pointersAreRaised();
        returning();
        returnWithoutFrame();
        returnBeyondTheEnd();
        cutAtReturn();
        check.end();
    }

    private static RingGates ready(int flags, int brackets, int ring, int x, int y) {
        RingGates g = new RingGates(4, 16, 4);
        g.defineSegment(CODE, 16, RingGates.FLAG_EXEC, Check.brackets(0, 7, 7));
        g.defineSegment(TARGET, LENGTH, flags, brackets);
        g.addGate(TARGET, GATE);
        Check.program(g, CODE, 0, Check.immediate(RingGates.OP_LDI, 70), Check.word(RingGates.OP_PUSH),
            Check.word(RingGates.OP_PTR, 20, 30), Check.word(RingGates.OP_SWP),
            Check.word(RingGates.OP_PTR, 40, 50), Check.word(RingGates.OP_CALL, x, y));
        g.start(CODE, 0, ring);
        g.run(5);
        return g;
    }

    private static void everyRing(int r1, int r2, int r3) {
        int brackets = Check.brackets(r1, r2, r3);
        for (int ring = 0; ring <= 7; ring++) {
            String what = "ring " + ring + " calls brackets " + r1 + r2 + r3;
            for (int entry = PLAIN; entry <= GATE; entry++) {
                for (int flags = 4; flags <= 7; flags += 3) {
                    RingGates g = ready(flags, brackets, ring, TARGET, entry);
                    if (ring > r3) {
                        check.faults(g, what, RingGates.F_CALL);
                    } else if (ring > r2 && entry != GATE) {
                        check.faults(g, what, RingGates.F_GATE);
                    } else {
                        enters(g, what, ring, entry, ring < r1 ? r1 : ring > r2 ? r2 : ring);
                    }
                }
            }
            check.faults(ready(3, brackets, ring, TARGET, GATE), what + " without FLAG_EXEC", RingGates.F_CALL);
        }
    }

    private static void enters(RingGates g, String what, int ring, int entry, int entered) {
        List<String> before = Check.fullView(g);
        int floor = g.stackHeight(entered);
        check.due(what, g.run(1), 1);
        check.process(what, g, RingGates.STATUS_READY, 0, entered, Check.ic(TARGET, entry), 70, 6);
        check.due(what + ", P", g.state(RingGates.S_P), Check.pointer(40, 50, ring));
        check.due(what + ", Q", g.state(RingGates.S_Q), Check.pointer(20, 30, ring));
        check.due(what + ", frames", g.state(RingGates.S_DEPTH), 1);
        check.due(what + ", return", g.frame(0, RingGates.FR_RETURN), Check.ic(CODE, 6));
        check.due(what + ", caller's ring", g.frame(0, RingGates.FR_CALLER_RING), ring);
        check.due(what + ", new ring", g.frame(0, RingGates.FR_RING), entered);
        check.due(what + ", floor", g.frame(0, RingGates.FR_FLOOR), floor);
        check.due(what + ", saved P", g.frame(0, RingGates.FR_SAVED_P), Check.pointer(40, 50, ring));
        check.due(what + ", saved Q", g.frame(0, RingGates.FR_SAVED_Q), Check.pointer(20, 30, ring));
        before.removeIf(line -> line.startsWith("state(") || line.startsWith("frame(0,"));
        List<String> after = Check.fullView(g);
        after.removeIf(line -> line.startsWith("state(") || line.startsWith("frame(0,"));
        check.same(what, after, before);
    }

    private static void orderOfTests() {
        int low = Check.brackets(1, 2, 3);
        int[] undefined = {0, 2, 4, 5, 7, 8, 128, 255};
        for (int x : undefined) {
            check.faults(ready(4, low, 7, x, 255), "an undefined slot " + x, RingGates.F_SEG);
        }
        check.faults(ready(0, low, 7, TARGET, LENGTH), "beyond the length", RingGates.F_BOUND);
        check.faults(ready(0, low, 7, TARGET, 255), "far beyond the length", RingGates.F_BOUND);
        check.faults(ready(0, low, 3, TARGET, PLAIN), "no flag and no gate", RingGates.F_CALL);
        check.faults(ready(4, low, 4, TARGET, PLAIN), "above r3 and no gate", RingGates.F_CALL);
        check.faults(ready(4, low, 3, TARGET, PLAIN), "no gate", RingGates.F_GATE);
    }

    private static void depthOfFrames() {
        for (int depth = 4; depth <= 16; depth++) {
            RingGates g = new RingGates(4, 8, depth);
            g.defineSegment(0, 8, RingGates.FLAG_EXEC, Check.brackets(2, 2, 4));
            g.defineSegment(1, 8, RingGates.FLAG_EXEC, Check.brackets(0, 0, 1));
            g.poke(0, 0, Check.word(RingGates.OP_CALL, 0, 0));
            g.start(0, 0, 2);
            check.due("calls at depth " + depth, g.run(depth), depth);
            check.due("frames at depth " + depth, g.state(RingGates.S_DEPTH), depth);
            check.faults(g, "one call more at depth " + depth, RingGates.F_FRAMES);
            g.start(0, 0, 2);
            g.run(depth);
            g.poke(0, 0, Check.word(RingGates.OP_CALL, 1, 0));
            check.faults(g, "F_CALL comes before F_FRAMES", RingGates.F_CALL);
            g.defineSegment(1, 8, RingGates.FLAG_EXEC, Check.brackets(0, 0, 7));
            g.poke(0, 0, Check.word(RingGates.OP_CALL, 0, 0));
            g.start(0, 0, 2);
            g.run(depth);
            g.poke(0, 0, Check.word(RingGates.OP_CALL, 1, 0));
            check.faults(g, "F_GATE comes before F_FRAMES", RingGates.F_GATE);
        }
    }

    /** P comes with the ring of an outer caller, Q with the callee's own: each is raised, none lowered. */
    private static void pointersAreRaised() {
        RingGates g = new RingGates(4, 16, 4);
        g.defineSegment(0, 16, RingGates.FLAG_EXEC, Check.brackets(5, 5, 5));
        g.defineSegment(1, 16, RingGates.FLAG_EXEC, Check.brackets(2, 2, 5));
        g.defineSegment(2, 16, RingGates.FLAG_EXEC, Check.brackets(0, 0, 5));
        g.defineSegment(3, 16, RingGates.FLAG_EXEC, Check.brackets(6, 6, 6));
        g.addGate(1, 0);
        g.addGate(2, 0);
        Check.program(g, 0, 0, Check.word(RingGates.OP_PTR, 9, 1), Check.word(RingGates.OP_SWP),
            Check.word(RingGates.OP_PTR, 9, 2), Check.word(RingGates.OP_CALL, 1, 0));
        Check.program(g, 1, 0, Check.word(RingGates.OP_SWP), Check.word(RingGates.OP_PTR, 8, 3),
            Check.word(RingGates.OP_SWP), Check.word(RingGates.OP_CALL, 2, 0));
        Check.program(g, 2, 0, Check.word(RingGates.OP_PTR, 7, 4), Check.word(RingGates.OP_CALL, 3, 0));
        g.start(0, 0, 5);
        check.due("two calls down", g.run(8), 8);
        check.due("P of the outer caller", g.state(RingGates.S_P), Check.pointer(9, 2, 5));
        check.due("Q of the inner caller", g.state(RingGates.S_Q), Check.pointer(8, 3, 2));
        check.due("saved P", g.frame(1, RingGates.FR_SAVED_P), Check.pointer(9, 2, 5));
        check.due("saved Q", g.frame(1, RingGates.FR_SAVED_Q), Check.pointer(8, 3, 2));
        check.due("an upward call", g.run(2), 2);
        check.due("ring", g.state(RingGates.S_RING), 6);
        check.due("P stays at the caller's ring", g.state(RingGates.S_P), Check.pointer(7, 4, 0));
        check.due("Q stays", g.state(RingGates.S_Q), Check.pointer(8, 3, 2));
        raisedAndSaved();
    }

    /** A pointer below the caller's ring can only come out of an upward call. */
    private static void raisedAndSaved() {
        RingGates g = new RingGates(4, 16, 4);
        g.defineSegment(0, 16, RingGates.FLAG_EXEC, Check.brackets(1, 1, 1));
        g.defineSegment(1, 16, RingGates.FLAG_EXEC, Check.brackets(4, 4, 4));
        g.defineSegment(2, 16, RingGates.FLAG_EXEC, Check.brackets(0, 0, 7));
        g.addGate(2, 3);
        Check.program(g, 0, 0, Check.word(RingGates.OP_PTR, 9, 1), Check.word(RingGates.OP_SWP),
            Check.word(RingGates.OP_PTR, 9, 2), Check.word(RingGates.OP_CALL, 1, 0));
        Check.program(g, 1, 0, Check.word(RingGates.OP_CALL, 2, 3));
        Check.program(g, 2, 3, Check.word(RingGates.OP_RET));
        g.start(0, 0, 1);
        check.due("up and down", g.run(5), 5);
        check.due("saved P is the one before the call", g.frame(1, RingGates.FR_SAVED_P), Check.pointer(9, 2, 1));
        check.due("saved Q is the one before the call", g.frame(1, RingGates.FR_SAVED_Q), Check.pointer(9, 1, 1));
        check.due("P is raised", g.state(RingGates.S_P), Check.pointer(9, 2, 4));
        check.due("Q is raised", g.state(RingGates.S_Q), Check.pointer(9, 1, 4));
        check.due("back", g.run(1), 1);
        check.due("P is restored", g.state(RingGates.S_P), Check.pointer(9, 2, 1));
        check.due("Q is restored", g.state(RingGates.S_Q), Check.pointer(9, 1, 1));
    }

    private static void returning() {
        for (int ring = 0; ring <= 7; ring++) {
            RingGates g = ready(4, Check.brackets(1, 3, 7), ring, TARGET, GATE);
            List<String> before = Check.processView(g);
            g.poke(TARGET, GATE, Check.word(RingGates.OP_JMP, 0, 0));
            Check.program(g, TARGET, 0, Check.immediate(RingGates.OP_LDI, 71), Check.word(RingGates.OP_PTR, 1, 2),
                Check.word(RingGates.OP_SWP), Check.word(RingGates.OP_PUSH), Check.word(RingGates.OP_PUSH),
                Check.word(RingGates.OP_RET, 5, 5));
            before.set(3, "state(3)=" + Check.ic(CODE, 6));
            before.set(4, "state(4)=71");
            before.set(8, "state(8)=13");
            check.due("a call and its return", g.run(8), 8);
            check.same("after the return to ring " + ring, Check.processView(g), before);
        }
    }

    private static void returnWithoutFrame() {
        RingGates g = ready(4, Check.brackets(0, 0, 0), 3, TARGET, GATE);
        g.poke(CODE, 5, Check.word(RingGates.OP_RET));
        check.faults(g, "RET without a frame", RingGates.F_FRAMES);
    }

    private static void returnBeyondTheEnd() {
        RingGates g = new RingGates(8, 32, 4);
        g.defineSegment(7, 32, RingGates.FLAG_EXEC, 0);
        g.poke(7, 31, Check.word(RingGates.OP_CALL, 7, 0));
        g.poke(7, 0, Check.word(RingGates.OP_RET));
        g.start(7, 31, 0);
        check.due("a call by the last word", g.run(1), 1);
        check.due("its return", g.frame(0, RingGates.FR_RETURN), Check.ic(7, 32));
        check.due("RET", g.run(1), 1);
        check.process("returned", g, RingGates.STATUS_READY, 0, 0, Check.ic(7, 32), 0, 2);
        check.faults(g, "the fetch after that", RingGates.F_BOUND);
        g.start(7, 31, 0);
        g.run(1);
        g.defineSegment(6, 8, RingGates.FLAG_EXEC, 0);
        g.defineSegment(7, 1, RingGates.FLAG_EXEC, Check.brackets(0, 0, 0));
        g.poke(7, 0, Check.word(RingGates.OP_RET));
        check.due("RET into a segment that was shortened", g.run(1), 1);
        check.faults(g, "and the fetch there", RingGates.F_BOUND);
    }

    private static void cutAtReturn() {
        RingGates g = new RingGates(4, 16, 8);
        g.defineSegment(0, 16, RingGates.FLAG_EXEC, Check.brackets(4, 4, 4));
        g.defineSegment(1, 16, RingGates.FLAG_EXEC, Check.brackets(2, 2, 4));
        g.addGate(1, 0);
        Check.program(g, 0, 0, Check.immediate(RingGates.OP_LDI, 1), Check.word(RingGates.OP_PUSH),
            Check.word(RingGates.OP_CALL, 1, 0), Check.word(RingGates.OP_HLT));
        Check.program(g, 1, 0, Check.immediate(RingGates.OP_LDI, 2), Check.word(RingGates.OP_PUSH),
            Check.word(RingGates.OP_PUSH), Check.word(RingGates.OP_CALL, 0, 8), Check.word(RingGates.OP_RET));
        Check.program(g, 0, 8, Check.immediate(RingGates.OP_LDI, 3), Check.word(RingGates.OP_PUSH),
            Check.word(RingGates.OP_PUSH), Check.word(RingGates.OP_RET));
        g.start(0, 0, 4);
        g.run(10);
        check.due("ring 4 in the inner call", g.stackHeight(4), 3);
        check.due("ring 2 in the inner call", g.stackHeight(2), 2);
        g.run(1);
        check.due("ring 4 after the inner return", g.stackHeight(4), 1);
        check.due("ring 2 after the inner return", g.stackHeight(2), 2);
        check.due("ring", g.state(RingGates.S_RING), 2);
        check.due("A is kept", g.state(RingGates.S_ACC), 3);
        g.run(1);
        check.due("ring 4 after the outer return", g.stackHeight(4), 1);
        check.due("ring 4's value", g.stackValue(4, 0), 1);
        check.due("ring 2 after the outer return", g.stackHeight(2), 0);
        check.due("ring 2's values", g.stackValue(2, 0), 0);
        check.due("ring", g.state(RingGates.S_RING), 4);
    }
}

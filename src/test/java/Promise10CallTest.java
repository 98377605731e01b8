import java.util.function.IntBinaryOperator;

/** Promise 10: CALL, over every bracket and ring. */
public final class Promise10CallTest {
    private static final Check check = new Check("promise 10, CALL");
    private static final int TARGET = 3;
    private static final int GATE = 6;
    private static final int PLAIN = 5;
    private static final int LENGTH = 7;

    /** What is checked of a call that is taken, from a ring into another. */
    private interface Taken {
        void check(RingGates g, String what, int ring, int entry, int entered);
    }

    public static void main(String[] args) {
        check.sentence("x is not a defined slot -> `F_SEG`.", Promise10CallTest::noDefinedSlot);
        check.sentence("y >= L(x) -> `F_BOUND`.", Promise10CallTest::beyondTheLength);
        check.sentence("`FLAG_EXEC` of x is missing,", Promise10CallTest::notExecutable);
        check.sentence("or R > r3 -> `F_CALL`.", Promise10CallTest::aboveTheBrackets);
        check.sentence("R > r2 and y is not a gate of x -> `F_GATE`.", Promise10CallTest::noGate);
        check.sentence("The frame stack holds depth frames -> `F_FRAMES`.", Promise10CallTest::fullFrames);
        check.sentence("**`OP_CALL`** calls slot x at entry y. Its tests, in order:", Promise10CallTest::order);
        check.sentence("r1 if R < r1;", () -> newRing(-1));
        check.sentence("R if r1 <= R <= r2;", () -> newRing(0));
        check.sentence("r2 if R > r2.", () -> newRing(1));
        check.sentence("A frame is pushed with these fields, using the values before this call:",
            Promise10CallTest::frameIsPushed);
        check.sentence("`FR_RETURN` = IC.seg*256+IC.off+1;", Promise10CallTest::returnOfEveryWord);
        check.sentence("`FR_CALLER_RING` = R;", () -> everyFrame(RingGates.FR_CALLER_RING, (ring, entered) -> ring));
        check.sentence("`FR_RING` = n;", () -> everyFrame(RingGates.FR_RING, (ring, entered) -> entered));
        check.sentence("`FR_FLOOR` = height of ring n's stack;", Promise10CallTest::floor);
        check.sentence("`FR_SAVED_P` = P;", () -> savedPointer(RingGates.FR_SAVED_P, 40, 50));
        check.sentence("`FR_SAVED_Q` = Q.", () -> savedPointer(RingGates.FR_SAVED_Q, 20, 30));
        check.sentence("Then P.ring = max(P.ring, R), Q.ring = max(Q.ring, R), R = n, and IC = (x, y).",
            Promise10CallTest::registersAfterACall);
        check.sentence("A and the ring stacks are unchanged.", () -> everyCall(Promise10CallTest::restIsUnchanged));
        check.sentence("A call that lowers the ring therefore lands on a declared gate of x and enters r2 of x.",
            Promise10CallTest::loweringCalls);
        check.end();
    }

    /** A process with A = 70 on its stack, P = (40, 50), Q = (20, 30), before a call of (x, y). */
    private static RingGates ready(int ring, int x, int y) {
        RingGates g = Code.ready(ring, Code.immediate(RingGates.OP_LDI, 70), Code.op(RingGates.OP_PUSH),
            Code.op(RingGates.OP_PTR, 20, 30), Code.op(RingGates.OP_SWP),
            Code.op(RingGates.OP_PTR, 40, 50), Code.op(RingGates.OP_CALL, x, y));
        check.reaches(g, 5);
        return g;
    }

    private static RingGates before(int flags, int brackets, int ring, int entry) {
        RingGates g = ready(ring, TARGET, entry);
        g.defineSegment(TARGET, LENGTH, flags, brackets);
        g.addGate(TARGET, GATE);
        return g;
    }

    private static void noDefinedSlot() {
        for (int x = 0; x <= 255; x++) {
            if (x != Code.DATA && x != Code.CODE) {
                check.faults(ready(0, x, 0), "a call of slot " + x, RingGates.F_SEG);
            }
        }
        RingGates first = ready(0, 0, 0);
        first.defineSegment(0, 8, RingGates.FLAG_EXEC, 0);
        check.due("a call of the first slot, defined", first.run(1), 1);
        RingGates last = ready(0, 3, 0);
        last.defineSegment(3, 8, RingGates.FLAG_EXEC, 0);
        check.due("a call of the last slot, defined", last.run(1), 1);
    }

    private static void beyondTheLength() {
        for (int length = 1; length <= 16; length++) {
            for (int y = 0; y <= 255; y++) {
                RingGates g = ready(0, TARGET, y);
                g.defineSegment(TARGET, length, RingGates.FLAG_EXEC, 0);
                if (y >= length) {
                    check.faults(g, "entry " + y + " with length " + length, RingGates.F_BOUND);
                } else {
                    check.due("entry " + y + " with length " + length, g.run(1), 1);
                }
            }
        }
    }

    private static void notExecutable() {
        for (int flags = 0; flags <= 7; flags++) {
            for (int ring = 0; ring <= 7; ring++) {
                RingGates g = before(flags, Code.brackets(0, 7, 7), ring, GATE);
                if ((flags & RingGates.FLAG_EXEC) == 0) {
                    check.faults(g, "a call with flags " + flags, RingGates.F_CALL);
                } else {
                    check.due("a call with flags " + flags, g.run(1), 1);
                }
            }
        }
    }

    private static void aboveTheBrackets() {
        for (int r3 = 0; r3 <= 7; r3++) {
            for (int ring = 0; ring <= 7; ring++) {
                RingGates g = before(RingGates.FLAG_EXEC, Code.brackets(0, 0, r3), ring, GATE);
                if (ring > r3) {
                    check.faults(g, "ring " + ring + " with r3 = " + r3, RingGates.F_CALL);
                } else {
                    check.due("ring " + ring + " with r3 = " + r3, g.run(1), 1);
                }
            }
        }
    }

    private static void noGate() {
        for (int r2 = 0; r2 <= 7; r2++) {
            for (int ring = 0; ring <= 7; ring++) {
                for (int entry = 0; entry < LENGTH; entry++) {
                    RingGates g = before(RingGates.FLAG_EXEC, Code.brackets(0, r2, 7), ring, entry);
                    if (ring > r2 && entry != GATE) {
                        check.faults(g, "ring " + ring + " with r2 = " + r2, RingGates.F_GATE);
                    } else {
                        check.due("ring " + ring + " with r2 = " + r2, g.run(1), 1);
                    }
                }
            }
        }
        everyGateOfAFullList();
    }

    private static void everyGateOfAFullList() {
        for (int entry = 0; entry < LENGTH; entry++) {
            RingGates g = before(RingGates.FLAG_EXEC, Code.brackets(0, 0, 7), 7, entry);
            g.addGate(TARGET, 0);
            g.addGate(TARGET, 3);
            g.addGate(TARGET, 4);
            check.is("a call of " + entry, g.run(1) == 1, entry == GATE || entry == 0 || entry == 3 || entry == 4);
        }
    }

    private static RingGates nested(int depth, int frames) {
        RingGates g = Code.readyWithDepth(depth, 2, Code.op(RingGates.OP_CALL, Code.CODE, 0));
        if (frames > 0) {
            check.reaches(g, frames);
        }
        check.due("frames", g.state(RingGates.S_DEPTH), frames);
        return g;
    }

    private static void fullFrames() {
        for (int depth = 4; depth <= 16; depth++) {
            check.due("the last frame of depth " + depth, nested(depth, depth - 1).run(1), 1);
            check.faults(nested(depth, depth), "one frame more than depth " + depth, RingGates.F_FRAMES);
        }
    }

    /** Every later test fails as well, in each of these. */
    private static void order() {
        int low = Code.brackets(0, 0, 1);
        for (int depth = 4; depth <= 16; depth += 12) {
            check.faults(fullBefore(depth, 0, 0, 0, 255), "no slot", RingGates.F_SEG);
            check.faults(fullBefore(depth, 0, low, TARGET, LENGTH), "beyond the length", RingGates.F_BOUND);
            check.faults(fullBefore(depth, 0, low, TARGET, PLAIN), "not executable", RingGates.F_CALL);
            check.faults(fullBefore(depth, 4, low, TARGET, PLAIN), "above r3", RingGates.F_CALL);
            check.faults(fullBefore(depth, 4, Code.brackets(0, 0, 2), TARGET, PLAIN), "no gate", RingGates.F_GATE);
            check.faults(fullBefore(depth, 4, Code.brackets(0, 0, 2), TARGET, GATE), "full", RingGates.F_FRAMES);
        }
    }

    private static RingGates fullBefore(int depth, int flags, int brackets, int x, int y) {
        RingGates g = nested(depth, depth);
        g.defineSegment(TARGET, LENGTH, flags, brackets);
        g.addGate(TARGET, GATE);
        g.poke(Code.CODE, 0, Code.op(RingGates.OP_CALL, x, y));
        return g;
    }

    /** Calls of every ring into every segment that lets it in, from below, within or above r1..r2. */
    private static void newRing(int side) {
        everyCall((g, what, ring, entry, entered) -> {
            int r1 = g.segment(TARGET) >> 12 & 15;
            int r2 = g.segment(TARGET) >> 16 & 15;
            int where = ring < r1 ? -1 : ring > r2 ? 1 : 0;
            if (where == side) {
                int due = side < 0 ? r1 : side > 0 ? r2 : ring;
                check.due(what, g.run(1), 1);
                check.due(what + ", R", g.state(RingGates.S_RING), due);
                check.due(what + ", FR_RING", g.frame(0, RingGates.FR_RING), due);
            }
        });
    }

    private static void everyCall(Taken taken) {
        for (int r1 = 0; r1 <= 7; r1++) {
            for (int r2 = r1; r2 <= 7; r2++) {
                for (int r3 = r2; r3 <= 7; r3++) {
                    for (int ring = 0; ring <= r3; ring++) {
                        int entered = ring < r1 ? r1 : ring > r2 ? r2 : ring;
                        String what = "a call from ring " + ring + " into " + r1 + r2 + r3;
                        for (int entry = ring > r2 ? GATE : PLAIN; entry <= GATE; entry++) {
                            RingGates g = before(RingGates.FLAG_EXEC, Code.brackets(r1, r2, r3), ring, entry);
                            taken.check(g, what, ring, entry, entered);
                        }
                    }
                }
            }
        }
    }

    private static void frameIsPushed() {
        for (int depth = 4; depth <= 16; depth++) {
            for (int frames = 0; frames < depth; frames++) {
                RingGates g = nested(depth, frames);
                View want = View.of(g).state(RingGates.S_DEPTH, frames + 1)
                    .frame(frames, RingGates.FR_RETURN, Code.ic(Code.CODE, 1)).frame(frames, RingGates.FR_FLOOR, 0)
                    .frame(frames, RingGates.FR_CALLER_RING, 2).frame(frames, RingGates.FR_RING, 2)
                    .frame(frames, RingGates.FR_SAVED_P, 2).frame(frames, RingGates.FR_SAVED_Q, 2);
                check.completes(g, "frame " + frames, want);
            }
        }
    }

    private static void everyFrame(int field, IntBinaryOperator due) {
        everyCall((g, what, ring, entry, entered) -> {
            check.reaches(g, 1);
            check.due(what, g.frame(0, field), due.applyAsInt(ring, entered));
        });
    }

    /** The frame keeps the pointer as it was before the call, also if the call raises its ring. */
    private static void savedPointer(int field, int seg, int off) {
        for (int first = 0; first <= 7; first++) {
            for (int second = 0; second <= 7; second++) {
                RingGates g = twoRings(first, second);
                check.reaches(g, 1);
                check.due("the outer frame's", g.frame(0, field), Code.pointer(seg, off, first));
                check.due("the inner frame's", g.frame(1, field), Code.pointer(seg, off, first));
            }
        }
    }

    /** The return of the last word of a segment lies behind it, and not in the next slot. */
    private static void returnOfEveryWord() {
        for (int seg = 0; seg < 8; seg++) {
            for (int off = 0; off < 32; off++) {
                RingGates g = new RingGates(8, 32, 4);
                g.defineSegment(seg, 32, RingGates.FLAG_EXEC, 0);
                g.poke(seg, off, Code.op(RingGates.OP_CALL, seg, 31 - off));
                g.start(seg, off, 0);
                check.reaches(g, 1);
                check.due("the return of " + seg + " " + off, g.frame(0, RingGates.FR_RETURN), 256 * seg + off + 1);
            }
        }
    }

    /** Ring 1 has so many values, ring 4 has one: a call from 4 to 1 has ring 1's height as its floor. */
    private static void floor() {
        for (int values = 0; values <= 4; values++) {
            RingGates g = Code.ready(1, Code.op(RingGates.OP_PUSH), Code.op(RingGates.OP_PUSH),
                Code.op(RingGates.OP_PUSH), Code.op(RingGates.OP_PUSH));
            g.poke(Code.CODE, values, Code.op(RingGates.OP_CALL, 0, 0));
            g.defineSegment(0, 8, RingGates.FLAG_EXEC, Code.brackets(4, 4, 7));
            Code.put(g, 0, 0, Code.op(RingGates.OP_PUSH), Code.op(RingGates.OP_CALL, TARGET, 0));
            g.defineSegment(TARGET, 8, RingGates.FLAG_EXEC, Code.brackets(1, 1, 7));
            g.addGate(TARGET, 0);
            check.reaches(g, values + 3);
            check.due("the floor of ring 4, empty", g.frame(0, RingGates.FR_FLOOR), 0);
            check.due("the floor of ring 1", g.frame(1, RingGates.FR_FLOOR), values);
        }
    }

    private static void registersAfterACall() {
        everyCall((g, what, ring, entry, entered) -> {
            check.reaches(g, 1);
            check.due(what + ", R", g.state(RingGates.S_RING), entered);
            check.due(what + ", IC", g.state(RingGates.S_IC), Code.ic(TARGET, entry));
            check.due(what + ", P", g.state(RingGates.S_P), Code.pointer(40, 50, ring));
            check.due(what + ", Q", g.state(RingGates.S_Q), Code.pointer(20, 30, ring));
        });
        for (int first = 0; first <= 7; first++) {
            for (int second = 0; second <= 7; second++) {
                pointersOfTwoRings(first, second);
            }
        }
    }

    /** P and Q come from the first ring, or one of them from the second, where the call is made. */
    private static void pointersOfTwoRings(int first, int second) {
        String what = " of ring " + first + " in a call from ring " + second;
        int high = Math.max(first, second);
        RingGates both = twoRings(first, second);
        check.reaches(both, 1);
        check.due("P" + what, both.state(RingGates.S_P), Code.pointer(40, 50, high));
        check.due("Q" + what, both.state(RingGates.S_Q), Code.pointer(20, 30, high));
        RingGates newP = twoRings(first, second, Code.op(RingGates.OP_PTR, 255, 255));
        check.reaches(newP, 2);
        check.due("a new P", newP.state(RingGates.S_P), Code.pointer(255, 255, second));
        check.due("Q" + what, newP.state(RingGates.S_Q), Code.pointer(20, 30, high));
        RingGates newQ = twoRings(first, second, Code.op(RingGates.OP_SWP), Code.op(RingGates.OP_PTR, 255, 255),
            Code.op(RingGates.OP_SWP));
        check.reaches(newQ, 4);
        check.due("P" + what, newQ.state(RingGates.S_P), Code.pointer(40, 50, high));
        check.due("a new Q", newQ.state(RingGates.S_Q), Code.pointer(255, 255, second));
    }

    /** A call from the first ring into the second has been made; these words and a call into ring 0 are due. */
    private static RingGates twoRings(int first, int second, int... words) {
        RingGates g = ready(first, TARGET, 1);
        g.defineSegment(TARGET, 16, RingGates.FLAG_EXEC, Code.brackets(second, second, 7));
        g.addGate(TARGET, 1);
        Code.put(g, TARGET, 1, words);
        g.poke(TARGET, 1 + words.length, Code.op(RingGates.OP_CALL, 0, 2));
        g.defineSegment(0, 8, RingGates.FLAG_EXEC, Code.brackets(0, 0, 7));
        g.addGate(0, 2);
        check.reaches(g, 1);
        return g;
    }

    private static void restIsUnchanged(RingGates g, String what, int ring, int entry, int entered) {
        View want = View.of(g).state(RingGates.S_DEPTH, 1).state(RingGates.S_RING, entered)
            .state(RingGates.S_IC, Code.ic(TARGET, entry)).frame(0, RingGates.FR_RETURN, Code.ic(Code.CODE, 6))
            .frame(0, RingGates.FR_CALLER_RING, ring).frame(0, RingGates.FR_RING, entered)
            .frame(0, RingGates.FR_FLOOR, g.stackHeight(entered))
            .frame(0, RingGates.FR_SAVED_P, Code.pointer(40, 50, ring))
            .frame(0, RingGates.FR_SAVED_Q, Code.pointer(20, 30, ring));
        check.completes(g, what, want);
    }

    private static void loweringCalls() {
        for (int r1 = 0; r1 <= 7; r1++) {
            for (int r2 = r1; r2 <= 7; r2++) {
                for (int ring = 0; ring <= 7; ring++) {
                    for (int entry = 0; entry < LENGTH; entry++) {
                        RingGates g = before(RingGates.FLAG_EXEC, Code.brackets(r1, r2, 7), ring, entry);
                        if (g.run(1) == 1 && g.state(RingGates.S_RING) < ring) {
                            check.due("the entry", g.state(RingGates.S_IC), Code.ic(TARGET, GATE));
                            check.due("the new ring", g.state(RingGates.S_RING), r2);
                        }
                    }
                }
            }
        }
    }
}

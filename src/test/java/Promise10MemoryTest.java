/** Promise 10: LD and ST. */
public final class Promise10MemoryTest {
    private static final Check check = new Check("promise 10, memory");
    private static final int TARGET = 0;
    private static final int LENGTH = 10;
    private static final int LAST = 9;
    private static final int HELD = -123456;
    private static final int[] OPS = {RingGates.OP_LD, RingGates.OP_ST};

    public static void main(String[] args) {
        check.sentence("P.seg is not a defined slot -> `F_SEG`.", Promise10MemoryTest::noDefinedSlot);
        check.sentence("P.off >= L -> `F_BOUND`.", Promise10MemoryTest::beyondTheLength);
        check.sentence("The bracket rule (`KIND_READ` for LD, `KIND_WRITE` for ST) at eff fails -> "
            + "`F_READ` for LD, `F_WRITE` for ST.", Promise10MemoryTest::everyFlagAndRing);
        check.sentence("For `OP_LD` and `OP_ST` the tests are, in order:", Promise10MemoryTest::order);
        check.sentence("eff = max(R, P.ring).", Promise10MemoryTest::effectiveRing);
        check.sentence("`OP_LD`: reads at eff the word P.off of slot P.seg; A = that word; next.",
            Promise10MemoryTest::load);
        check.sentence("`OP_ST`: writes at eff the word P.off of slot P.seg; that word = A; next.",
            Promise10MemoryTest::store);
        check.sentence("So after a completed LD, A equals that word. After a completed ST, that word equals A.",
            Promise10MemoryTest::wordAndA);
        check.sentence("In each case the matching access(P.seg, P.off, eff, kind) was true before the step.",
            Promise10MemoryTest::asAccess);
        check.end();
    }

    /** A process with A = 500 and P = (seg, off, ring), before this op. */
    private static RingGates ready(int op, int ring, int seg, int off) {
        RingGates g = Code.ready(ring, Code.immediate(RingGates.OP_LDI, 500),
            Code.op(RingGates.OP_PTR, seg, off), Code.op(op, 3, 4));
        check.reaches(g, 2);
        return g;
    }

    private static void target(RingGates g, int flags, int r1, int r2) {
        g.defineSegment(TARGET, LENGTH, flags, Code.brackets(r1, r2, 7));
        g.addGate(TARGET, LAST);
        g.poke(TARGET, LAST, HELD);
    }

    /** The next step, of P = (TARGET, LAST), is completed or faults. */
    private static void step(RingGates g, String what, int op, boolean due) {
        boolean load = op == RingGates.OP_LD;
        if (!due) {
            check.faults(g, what, load ? RingGates.F_READ : RingGates.F_WRITE);
        } else if (load) {
            check.completes(g, what, View.of(g).next().state(RingGates.S_ACC, HELD));
        } else {
            check.completes(g, what, View.of(g).next().word(TARGET, LAST, 500));
        }
    }

    private static void noDefinedSlot() {
        for (int op : OPS) {
            for (int seg = 0; seg <= 255; seg++) {
                if (seg != Code.DATA && seg != Code.CODE) {
                    check.faults(ready(op, 0, seg, 0), "slot " + seg, RingGates.F_SEG);
                }
            }
            RingGates first = ready(op, 0, 0, LAST);
            target(first, 3, 0, 0);
            step(first, "the first slot, defined", op, true);
        }
    }

    private static void beyondTheLength() {
        for (int op : OPS) {
            for (int length = 1; length <= 16; length++) {
                for (int off = 0; off <= 255; off++) {
                    RingGates g = ready(op, 0, Code.FREE, off);
                    g.defineSegment(Code.FREE, length, 3, 0);
                    if (off >= length) {
                        check.faults(g, "offset " + off + " with length " + length, RingGates.F_BOUND);
                    } else {
                        check.due("offset " + off + " with length " + length, g.run(1), 1);
                    }
                }
            }
        }
    }

    private static boolean rule(int op, int flags, int r1, int r2, int e) {
        return op == RingGates.OP_LD ? (flags & 1) != 0 && e <= r2 : (flags & 2) != 0 && e <= r1;
    }

    private static void everyFlagAndRing() {
        for (int op : OPS) {
            for (int flags = 0; flags <= 7; flags++) {
                for (int r1 = 0; r1 <= 7; r1++) {
                    for (int r2 = r1; r2 <= 7; r2++) {
                        for (int ring = 0; ring <= 7; ring++) {
                            RingGates g = ready(op, ring, TARGET, LAST);
                            target(g, flags, r1, r2);
                            String what = "op " + op + " flags " + flags + " brackets " + r1 + r2 + " ring " + ring;
                            step(g, what, op, rule(op, flags, r1, r2, ring));
                        }
                    }
                }
            }
        }
    }

    /** Every later test fails as well, in each of these. */
    private static void order() {
        for (int op : OPS) {
            check.faults(ready(op, 7, TARGET, 255), "no slot, no word", RingGates.F_SEG);
            RingGates beyond = ready(op, 7, TARGET, LENGTH);
            target(beyond, 0, 0, 0);
            check.faults(beyond, "no word, no right", RingGates.F_BOUND);
            RingGates within = ready(op, 7, TARGET, LAST);
            target(within, 0, 0, 0);
            step(within, "no right", op, false);
        }
    }

    private static void effectiveRing() {
        for (int op : OPS) {
            for (int low = 0; low <= 7; low++) {
                for (int high = low; high <= 7; high++) {
                    step(lowered(op, high, low), "P of ring " + high + " at ring " + low, op, rule(op, 3, 2, 5, high));
                    step(raised(op, low, high), "P of ring " + low + " at ring " + high, op, rule(op, 3, 2, 5, high));
                    step(renewed(op, high, low), "Q of ring " + high + " at ring " + low, op, rule(op, 3, 2, 5, low));
                }
            }
        }
    }

    /** P comes from a caller of a higher ring. */
    private static RingGates lowered(int op, int ring, int lower) {
        RingGates g = called(ring, lower, Code.op(op));
        check.due("R", g.state(RingGates.S_RING), lower);
        check.due("P", g.state(RingGates.S_P), Code.pointer(TARGET, LAST, ring));
        return g;
    }

    /** P comes from a caller of a lower ring. */
    private static RingGates raised(int op, int ring, int higher) {
        RingGates g = called(ring, higher, Code.op(op));
        check.due("R", g.state(RingGates.S_RING), higher);
        check.due("P", g.state(RingGates.S_P), Code.pointer(TARGET, LAST, ring));
        return g;
    }

    /** Q comes from a caller of a higher ring, and P is made in the callee. */
    private static RingGates renewed(int op, int ring, int lower) {
        RingGates g = called(ring, lower, Code.op(RingGates.OP_SWP), Code.op(RingGates.OP_PTR, TARGET, LAST),
            Code.op(op));
        check.reaches(g, 2);
        check.due("P", g.state(RingGates.S_P), Code.pointer(TARGET, LAST, lower));
        check.due("Q", g.state(RingGates.S_Q), Code.pointer(TARGET, LAST, ring));
        return g;
    }

    /** A call from a ring into another, with P of the caller's ring, before the first of these words. */
    private static RingGates called(int ring, int entered, int... words) {
        RingGates g = ready(RingGates.OP_CALL, ring, TARGET, LAST);
        target(g, 3, 2, 5);
        g.defineSegment(Code.FREE, 16, RingGates.FLAG_EXEC, Code.brackets(entered, entered, 7));
        g.addGate(Code.FREE, 4);
        Code.put(g, Code.FREE, 4, words);
        check.reaches(g, 1);
        return g;
    }

    private static void load() {
        for (int value : Code.INTS) {
            for (int off : new int[] {0, 1, 31}) {
                RingGates g = apart(RingGates.OP_LD, off);
                g.poke(7, off, value);
                check.completes(g, "LD of " + value, View.of(g).next().state(RingGates.S_ACC, value));
            }
        }
    }

    /** P = (7, off, 0) in an object of the greatest sizes, before this op. */
    private static RingGates apart(int op, int off) {
        RingGates g = new RingGates(8, 32, 16);
        g.defineSegment(0, 8, RingGates.FLAG_EXEC, 0);
        g.defineSegment(6, 32, 3, 0);
        g.defineSegment(7, 32, 3, 0);
        Code.put(g, 0, 0, Code.op(RingGates.OP_PTR, 7, off), Code.op(op));
        g.start(0, 0, 0);
        check.reaches(g, 1);
        return g;
    }

    private static void store() {
        for (int value : Code.INTS) {
            for (int off : new int[] {0, 1, 15}) {
                RingGates g = Code.withA(value, Code.op(RingGates.OP_PTR, Code.DATA, off), Code.op(RingGates.OP_ST));
                check.reaches(g, 1);
                check.completes(g, "ST of " + value, View.of(g).next().word(Code.DATA, off, value));
            }
        }
        RingGates last = apart(RingGates.OP_ST, 31);
        last.poke(7, 31, 5);
        check.completes(last, "ST into the last word of all", View.of(last).next().word(7, 31, 0));
    }

    private static void wordAndA() {
        for (int off = 0; off <= 31; off++) {
            RingGates loaded = apart(RingGates.OP_LD, off);
            loaded.poke(7, off, 1000 + off);
            check.reaches(loaded, 1);
            check.due("A after LD", loaded.state(RingGates.S_ACC), loaded.peek(7, off));
            RingGates stored = apart(RingGates.OP_ST, off);
            stored.poke(7, off, 1000 + off);
            check.reaches(stored, 1);
            check.due("the word after ST", stored.peek(7, off), stored.state(RingGates.S_ACC));
        }
        storeIntoTheCode();
    }

    private static void storeIntoTheCode() {
        RingGates g = new RingGates(2, 8, 4);
        g.defineSegment(0, 8, 7, 0);
        int made = Code.immediate(RingGates.OP_LDI, 999);
        Code.put(g, 0, 0, Code.op(RingGates.OP_PTR, 0, 7), Code.op(RingGates.OP_LD),
            Code.op(RingGates.OP_PTR, 0, 4), Code.op(RingGates.OP_ST));
        g.poke(0, 7, made);
        g.start(0, 0, 0);
        check.reaches(g, 3);
        check.completes(g, "ST into the next word", View.of(g).next().word(0, 4, made));
        check.completes(g, "the word that was written", View.of(g).next().state(RingGates.S_ACC, 999));
    }

    private static void asAccess() {
        for (int op : OPS) {
            int kind = op == RingGates.OP_LD ? RingGates.KIND_READ : RingGates.KIND_WRITE;
            for (int ring = 0; ring <= 7; ring++) {
                for (int lower = 0; lower <= ring; lower++) {
                    RingGates g = lowered(op, ring, lower);
                    boolean open = g.access(TARGET, LAST, ring, kind);
                    check.is("op " + op + " with eff = " + ring, g.run(1) == 1, open);
                }
            }
            for (int off : new int[] {0, LAST, LENGTH, 255}) {
                RingGates g = ready(op, 0, TARGET, off);
                target(g, 3, 0, 0);
                boolean open = g.access(TARGET, off, 0, kind);
                check.is("op " + op + " at " + off, g.run(1) == 1, open);
            }
        }
    }
}

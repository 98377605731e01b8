import java.util.List;

/** Promise 10: LD and ST. */
public final class Promise10MemoryTest {
    private static final Check check = new Check("promise 10, memory");
    private static final int DATA = 1;
    private static final int CODE = 2;
    private static final int INNER = 3;

    public static void main(String[] args) {
        for (int flags = 0; flags <= 7; flags++) {
            for (int ring = 0; ring <= 7; ring++) {
                direct(flags, ring);
                for (int lower = 0; lower <= ring; lower++) {
                    throughAGate(flags, ring, lower);
                }
            }
        }
        for (int low = 0; low <= 7; low++) {
            for (int high = low; high <= 7; high++) {
                afterAnUpwardCall(low, high);
                withAnotherQ(low, high);
            }
        }
        places();
        ownCode();
        everyWordValue();
        check.end();
    }

    private static RingGates ready(int flags, int ring, int op) {
        RingGates g = new RingGates(4, 16, 4);
        g.defineSegment(DATA, 10, flags, Check.brackets(2, 5, 6));
        g.addGate(DATA, 9);
        g.poke(DATA, 9, -123456);
        g.defineSegment(CODE, 16, RingGates.FLAG_EXEC, Check.brackets(0, 7, 7));
        Check.program(g, CODE, 0, Check.immediate(RingGates.OP_LDI, 500),
            Check.word(RingGates.OP_PTR, DATA, 9), Check.word(op, 3, 4));
        g.start(CODE, 0, ring);
        g.run(2);
        return g;
    }

    private static void direct(int flags, int ring) {
        String what = " with flags " + flags + " at ring " + ring;
        step(ready(flags, ring, RingGates.OP_LD), "LD" + what, true, (flags & 1) != 0 && ring <= 5);
        step(ready(flags, ring, RingGates.OP_ST), "ST" + what, false, (flags & 2) != 0 && ring <= 2);
    }

    /** The pointer keeps the caller's ring, so the lower ring of the callee must not help. */
    private static void throughAGate(int flags, int ring, int lower) {
        String what = " with flags " + flags + " for ring " + ring + " at ring " + lower;
        step(called(flags, ring, lower, RingGates.OP_LD), "LD" + what, true, (flags & 1) != 0 && ring <= 5);
        step(called(flags, ring, lower, RingGates.OP_ST), "ST" + what, false, (flags & 2) != 0 && ring <= 2);
    }

    private static RingGates called(int flags, int ring, int lower, int op) {
        RingGates g = ready(flags, ring, RingGates.OP_CALL);
        g.defineSegment(INNER, 8, RingGates.FLAG_EXEC, Check.brackets(lower, lower, 7));
        g.addGate(INNER, 4);
        g.poke(INNER, 4, Check.word(op, 9, 9));
        check.due("the call", g.run(1), 1);
        check.due("the ring in the call", g.state(RingGates.S_RING), lower);
        return g;
    }

    /** The pointer comes from a lower ring, so the ring of the process decides. */
    private static void afterAnUpwardCall(int low, int high) {
        String what = " for ring " + low + " at ring " + high;
        step(upward(low, high, RingGates.OP_LD), "LD" + what, true, high <= 5);
        step(upward(low, high, RingGates.OP_ST), "ST" + what, false, high <= 2);
    }

    private static RingGates upward(int low, int high, int op) {
        RingGates g = ready(3, low, RingGates.OP_CALL);
        g.defineSegment(INNER, 8, RingGates.FLAG_EXEC, Check.brackets(high, high, 7));
        g.poke(INNER, 4, Check.word(op));
        check.due("the upward call", g.run(1), 1);
        check.due("P in the call", g.state(RingGates.S_P), Check.pointer(DATA, 9, low));
        return g;
    }

    /** Q keeps the caller's ring, P is made anew in the callee: only P's ring counts, and ADP keeps it. */
    private static void withAnotherQ(int low, int high) {
        String what = " with Q of ring " + high + " at ring " + low;
        step(renewed(low, high, RingGates.OP_LD, false), "LD" + what, true, low <= 5);
        step(renewed(low, high, RingGates.OP_ST, false), "ST" + what, false, low <= 2);
        what = " with Q of ring " + low + ", P of ring " + high + " at ring " + low;
        step(renewed(low, high, RingGates.OP_LD, true), "LD" + what, true, high <= 5);
        step(renewed(low, high, RingGates.OP_ST, true), "ST" + what, false, high <= 2);
    }

    private static RingGates renewed(int low, int high, int op, boolean swapped) {
        RingGates g = ready(3, high, RingGates.OP_CALL);
        g.defineSegment(INNER, 16, RingGates.FLAG_EXEC, Check.brackets(low, low, 7));
        g.addGate(INNER, 4);
        g.poke(INNER, 4, Check.word(RingGates.OP_JMP, 0, 8));
        Check.program(g, INNER, 8, Check.word(RingGates.OP_SWP), Check.word(RingGates.OP_PTR, DATA, 8));
        if (swapped) {
            Check.program(g, INNER, 10, Check.word(RingGates.OP_SWP), Check.word(RingGates.OP_ADP, 0, 0));
        } else {
            Check.program(g, INNER, 10, Check.word(RingGates.OP_RNG), Check.word(RingGates.OP_ADP, 0, 1));
        }
        Check.program(g, INNER, 12, Check.immediate(RingGates.OP_LDI, 500), Check.word(op));
        check.due("the callee's pointers", g.run(7), 7);
        check.due("P in the callee", g.state(RingGates.S_P), Check.pointer(DATA, 9, swapped ? high : low));
        check.due("Q's ring in the callee", g.state(RingGates.S_Q) & 255, swapped ? low : high);
        return g;
    }

    private static void step(RingGates g, String what, boolean load, boolean due) {
        if (!due) {
            check.faults(g, what, load ? RingGates.F_READ : RingGates.F_WRITE);
            return;
        }
        List<String> before = Check.fullView(g);
        int ic = g.state(RingGates.S_IC);
        int count = g.state(RingGates.S_COUNT);
        int ring = g.state(RingGates.S_RING);
        int pointer = g.state(RingGates.S_P);
        check.due(what, g.run(1), 1);
        check.process(what, g, RingGates.STATUS_READY, 0, ring, ic + 1, load ? -123456 : 500, count + 1);
        check.due(what + ", the word", g.peek(DATA, 9), load ? -123456 : 500);
        check.due(what + ", P", g.state(RingGates.S_P), pointer);
        before.removeIf(line -> line.startsWith("state(") || line.startsWith("peek(1,9)"));
        List<String> after = Check.fullView(g);
        after.removeIf(line -> line.startsWith("state(") || line.startsWith("peek(1,9)"));
        check.same(what, after, before);
    }

    /** An undefined slot comes before the bound, and the bound before the bracket rule. */
    private static void places() {
        int[] ops = {RingGates.OP_LD, RingGates.OP_ST};
        for (int op : ops) {
            place(op, 0, 0, RingGates.F_SEG);
            place(op, 3, 255, RingGates.F_SEG);
            place(op, 4, 0, RingGates.F_SEG);
            place(op, 7, 0, RingGates.F_SEG);
            place(op, 8, 0, RingGates.F_SEG);
            place(op, 255, 0, RingGates.F_SEG);
            place(op, 128, 255, RingGates.F_SEG);
            place(op, DATA, 10, RingGates.F_BOUND);
            place(op, DATA, 16, RingGates.F_BOUND);
            place(op, DATA, 32, RingGates.F_BOUND);
            place(op, DATA, 255, RingGates.F_BOUND);
            place(op, DATA, 9, op == RingGates.OP_LD ? RingGates.F_READ : RingGates.F_WRITE);
            place(op, DATA, 0, op == RingGates.OP_LD ? RingGates.F_READ : RingGates.F_WRITE);
        }
    }

    private static void place(int op, int seg, int off, int fault) {
        RingGates g = ready(0, 1, op);
        g.poke(CODE, 1, Check.word(RingGates.OP_PTR, seg, off));
        g.start(CODE, 0, 1);
        g.run(2);
        check.faults(g, "op " + op + " at " + seg + " " + off, fault);
    }

    private static void ownCode() {
        RingGates g = new RingGates(2, 8, 4);
        g.defineSegment(0, 8, 7, 0);
        Check.program(g, 0, 0, Check.word(RingGates.OP_PTR, 0, 7), Check.word(RingGates.OP_LD),
            Check.word(RingGates.OP_PTR, 0, 4), Check.word(RingGates.OP_ST), 0);
        g.poke(0, 7, Check.immediate(RingGates.OP_LDI, 999));
        g.start(0, 0, 0);
        check.due("a program that writes its next word", g.run(5), 5);
        check.due("A", g.state(RingGates.S_ACC), 999);
    }

    private static void everyWordValue() {
        int[] values = {0, 1, -1, 65536, Integer.MIN_VALUE, Integer.MAX_VALUE};
        for (int value : values) {
            RingGates g = new RingGates(8, 32, 4);
            g.defineSegment(0, 8, RingGates.FLAG_EXEC, 0);
            g.defineSegment(7, 32, 3, 0);
            g.poke(7, 31, value);
            Check.program(g, 0, 0, Check.word(RingGates.OP_PTR, 7, 31), Check.word(RingGates.OP_LD),
                Check.word(RingGates.OP_PTR, 7, 0), Check.word(RingGates.OP_ST));
            g.start(0, 0, 0);
            check.due("copying", g.run(4), 4);
            check.due("A", g.state(RingGates.S_ACC), value);
            check.due("the copy", g.peek(7, 0), value);
        }
    }
}

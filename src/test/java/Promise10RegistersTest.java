import java.util.List;

/** Promise 10: the register, arithmetic, jump and halt instructions, and the decoding of a word. */
public final class Promise10RegistersTest {
    private static final Check check = new Check("promise 10, registers and jumps");
    private static final int[] IMMEDIATES = {0, 1, 255, 256, 257, 32767, 32768, 65535};

    public static void main(String[] args) {
        immediates();
        additionWraps();
        pointers();
        swap();
        rings();
        jumps();
        everyOpcode();
        highBitsAreIgnored();
        check.end();
    }

    private static RingGates with(int ring, int... words) {
        RingGates g = new RingGates(4, 16, 4);
        g.defineSegment(2, 16, RingGates.FLAG_EXEC, Check.brackets(0, 7, 7));
        Check.program(g, 2, 0, words);
        g.start(2, 0, ring);
        return g;
    }

    private static void immediates() {
        for (int v : IMMEDIATES) {
            RingGates g = with(0, Check.immediate(RingGates.OP_LDI, v), Check.immediate(RingGates.OP_ADI, v));
            check.due("LDI", g.run(1), 1);
            check.process("LDI " + v, g, RingGates.STATUS_READY, 0, 0, Check.ic(2, 1), v, 1);
            check.due("ADI", g.run(1), 1);
            check.process("ADI " + v, g, RingGates.STATUS_READY, 0, 0, Check.ic(2, 2), 2 * v, 2);
        }
    }

    private static void additionWraps() {
        RingGates g = with(0, Check.word(RingGates.OP_PTR, 0, 3), Check.word(RingGates.OP_LD),
            Check.immediate(RingGates.OP_ADI, 65535), Check.immediate(RingGates.OP_ADI, 1));
        g.defineSegment(0, 4, RingGates.FLAG_READ, Check.brackets(0, 7, 7));
        g.poke(0, 3, Integer.MAX_VALUE);
        g.run(3);
        check.due("A beyond the greatest int", g.state(RingGates.S_ACC), Integer.MAX_VALUE + 65535);
        g.poke(0, 3, -1);
        g.start(2, 0, 0);
        g.run(2);
        check.due("a negative A", g.state(RingGates.S_ACC), -1);
        g.run(2);
        check.due("A beyond -1", g.state(RingGates.S_ACC), 65535);
    }

    private static void pointers() {
        for (int ring = 0; ring <= 7; ring++) {
            for (int y = 0; y <= 255; y += 51) {
                for (int step = 0; step <= 255; step += 17) {
                    RingGates g = with(ring, Check.word(RingGates.OP_PTR, 255 - y, y),
                        Check.word(RingGates.OP_ADP, 77, step));
                    check.due("PTR", g.run(1), 1);
                    check.due("P", g.state(RingGates.S_P), Check.pointer(255 - y, y, ring));
                    check.due("Q", g.state(RingGates.S_Q), ring);
                    check.process("PTR", g, RingGates.STATUS_READY, 0, ring, Check.ic(2, 1), 0, 1);
                    check.due("ADP", g.run(1), 1);
                    check.due("P + " + step, g.state(RingGates.S_P),
                        Check.pointer(255 - y, (y + step) % 256, ring));
                    check.due("Q", g.state(RingGates.S_Q), ring);
                    check.process("ADP", g, RingGates.STATUS_READY, 0, ring, Check.ic(2, 2), 0, 2);
                }
            }
        }
    }

    private static void swap() {
        RingGates g = with(5, Check.word(RingGates.OP_PTR, 9, 8), Check.word(RingGates.OP_SWP),
            Check.word(RingGates.OP_PTR, 7, 6), Check.word(RingGates.OP_SWP));
        g.run(2);
        check.due("P", g.state(RingGates.S_P), Check.pointer(0, 0, 5));
        check.due("Q", g.state(RingGates.S_Q), Check.pointer(9, 8, 5));
        g.run(2);
        check.due("P", g.state(RingGates.S_P), Check.pointer(9, 8, 5));
        check.due("Q", g.state(RingGates.S_Q), Check.pointer(7, 6, 5));
        check.process("SWP", g, RingGates.STATUS_READY, 0, 5, Check.ic(2, 4), 0, 4);
    }

    private static void rings() {
        for (int ring = 0; ring <= 7; ring++) {
            RingGates g = with(ring, Check.word(RingGates.OP_RNG), Check.word(RingGates.OP_CALL, 3, 1));
            g.defineSegment(3, 16, RingGates.FLAG_EXEC, Check.brackets(0, 2, 7));
            g.addGate(3, 1);
            Check.program(g, 3, 1, Check.word(RingGates.OP_RNG), Check.word(RingGates.OP_PRG),
                Check.word(RingGates.OP_PTR, 0, 0), Check.word(RingGates.OP_PRG));
            g.run(1);
            check.due("RNG", g.state(RingGates.S_ACC), ring);
            g.run(2);
            check.due("RNG in the call", g.state(RingGates.S_ACC), Math.min(ring, 2));
            g.run(1);
            check.due("PRG in the call", g.state(RingGates.S_ACC), ring);
            g.run(2);
            check.due("PRG of a new pointer", g.state(RingGates.S_ACC), Math.min(ring, 2));
            check.due("completed", g.state(RingGates.S_COUNT), 6);
        }
    }

    private static void jumps() {
        for (int y = 0; y <= 255; y++) {
            RingGates g = with(1, Check.word(RingGates.OP_JMP, 3, y));
            check.due("JMP", g.run(1), 1);
            check.process("JMP " + y, g, RingGates.STATUS_READY, 0, 1, Check.ic(2, y), 0, 1);
            RingGates zero = with(1, Check.word(RingGates.OP_JZ, 3, y));
            check.due("JZ with A = 0", zero.run(1), 1);
            check.process("JZ " + y + " with A = 0", zero, RingGates.STATUS_READY, 0, 1, Check.ic(2, y), 0, 1);
            RingGates not = with(1, Check.immediate(RingGates.OP_LDI, 1), Check.word(RingGates.OP_JZ, 3, y));
            check.due("JZ with A = 1", not.run(2), 2);
            check.process("JZ " + y + " with A = 1", not, RingGates.STATUS_READY, 0, 1, Check.ic(2, 2), 1, 2);
            if (y >= 16) {
                check.due("the fetch beyond L", g.run(1), 0);
                check.process("JMP " + y + " beyond L", g, RingGates.STATUS_FAULTED, RingGates.F_BOUND,
                    1, Check.ic(2, y), 0, 1);
            }
        }
        RingGates negative = with(0, Check.word(RingGates.OP_PTR, 0, 0), Check.word(RingGates.OP_LD),
            Check.word(RingGates.OP_JZ, 0, 9));
        negative.defineSegment(0, 4, RingGates.FLAG_READ, 0);
        negative.poke(0, 0, -65536);
        negative.run(3);
        check.process("JZ with a negative A", negative, RingGates.STATUS_READY, 0, 0, Check.ic(2, 3), -65536, 3);
    }

    private static void everyOpcode() {
        for (int op = 16; op <= 255; op++) {
            RingGates g = with(3, Check.immediate(RingGates.OP_LDI, 4), Check.word(op, 2, 1));
            g.run(1);
            check.faults(g, "op " + op, RingGates.F_OPCODE);
        }
        RingGates g = with(3, Check.word(RingGates.OP_HLT, 200, 100));
        List<String> want = Check.fullView(g);
        want.set(0, "state(0)=" + RingGates.STATUS_HALTED);
        want.set(8, "state(8)=1");
        check.due("HLT", g.run(9), 1);
        check.same("HLT", Check.fullView(g), want);
    }

    private static void highBitsAreIgnored() {
        for (int op = 0; op <= 16; op++) {
            for (int high = 1; high <= 255; high += 127) {
                RingGates plain = with(2, Check.word(op, 2, 3));
                RingGates marked = with(2, Check.word(op, 2, 3) | high << 24);
                check.due("op " + op + " with high bits " + high, marked.run(1), plain.run(1));
                check.same("op " + op + " with high bits " + high, Check.processView(marked), Check.processView(plain));
            }
        }
    }
}

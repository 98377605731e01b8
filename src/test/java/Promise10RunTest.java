import java.util.List;

/** Promise 10: how many steps run takes, what it answers, and the fetch of a word. */
public final class Promise10RunTest {
    private static final Check check = new Check("promise 10, run and fetch");

    public static void main(String[] args) {
        limits();
        refusals();
        haltAndFaultEndARun();
        asManySingleSteps();
        fetchAtEveryRing();
        fetchOrder();
        fallingOffTheEnd();
        check.end();
    }

    private static RingGates endless() {
        RingGates g = new RingGates(2, 8, 4);
        g.defineSegment(0, 8, RingGates.FLAG_EXEC, 0);
        Check.program(g, 0, 0, Check.immediate(RingGates.OP_ADI, 1), Check.word(RingGates.OP_JMP, 0, 0));
        g.start(0, 0, 0);
        return g;
    }

    private static void limits() {
        int[] steps = {1, 2, 3, 254, 255, 256, 257, 258, 1000, Integer.MAX_VALUE};
        for (int asked : steps) {
            RingGates g = endless();
            int due = Math.min(asked, 256);
            check.due("run(" + asked + ")", g.run(asked), due);
            check.process("run(" + asked + ")", g, RingGates.STATUS_READY, RingGates.F_NONE, 0,
                due % 2, (due + 1) / 2, due);
            check.due("run(" + asked + ") again", g.run(asked), due);
            check.due("count of both", g.state(RingGates.S_COUNT), 2 * due);
        }
    }

    private static void refusals() {
        int[] steps = {0, -1, -256, Integer.MIN_VALUE};
        for (int status : Scene.STATUSES) {
            RingGates g = Scene.inStatus(status);
            List<String> before = Check.fullView(g);
            for (int asked : steps) {
                check.due("run(" + asked + ") in status " + status, g.run(asked), 0);
                check.same("run(" + asked + ") in status " + status, Check.fullView(g), before);
            }
            if (status != RingGates.STATUS_READY) {
                check.due("run(1) in status " + status, g.run(1), 0);
                check.due("run(500) in status " + status, g.run(500), 0);
                check.same("run in status " + status, Check.fullView(g), before);
            }
        }
    }

    private static void haltAndFaultEndARun() {
        RingGates g = new RingGates(2, 8, 4);
        g.defineSegment(0, 8, RingGates.FLAG_EXEC, 0);
        Check.program(g, 0, 0, Check.immediate(RingGates.OP_LDI, 5), Check.word(RingGates.OP_HLT));
        g.start(0, 0, 0);
        check.due("a run to the halt", g.run(10), 2);
        check.process("halted", g, RingGates.STATUS_HALTED, RingGates.F_NONE, 0, 1, 5, 2);
        check.due("a run after the halt", g.run(10), 0);
        g.poke(0, 1, Check.word(99));
        g.start(0, 0, 0);
        check.due("a run to the fault", g.run(10), 1);
        check.process("faulted", g, RingGates.STATUS_FAULTED, RingGates.F_OPCODE, 0, 1, 5, 1);
        check.due("a run after the fault", g.run(10), 0);
        check.process("still faulted", g, RingGates.STATUS_FAULTED, RingGates.F_OPCODE, 0, 1, 5, 1);
    }

    private static void asManySingleSteps() {
        for (int steps = 1; steps <= 20; steps++) {
            for (int status : Scene.STATUSES) {
                RingGates whole = Scene.inStatus(status);
                RingGates single = Scene.inStatus(status);
                whole.start(Scene.CODE, 0, 4);
                single.start(Scene.CODE, 0, 4);
                int completed = 0;
                for (int i = 0; i < steps; i++) {
                    completed += single.run(1);
                }
                check.due("run(" + steps + ")", whole.run(steps), completed);
                check.same("run(" + steps + ")", Check.fullView(whole), Check.fullView(single));
            }
        }
    }

    private static void fetchAtEveryRing() {
        for (int flags = 0; flags <= 7; flags++) {
            for (int ring = 0; ring <= 7; ring++) {
                RingGates g = new RingGates(2, 8, 4);
                g.defineSegment(1, 8, flags, Check.brackets(2, 5, 7));
                g.addGate(1, 3);
                g.start(1, 3, ring);
                boolean due = (flags & 4) != 0 && ring >= 2 && ring <= 5;
                String what = "fetch with flags " + flags + " at ring " + ring;
                check.due(what, g.run(1), due ? 1 : 0);
                check.process(what, g, due ? RingGates.STATUS_HALTED : RingGates.STATUS_FAULTED,
                    due ? RingGates.F_NONE : RingGates.F_EXEC, ring, Check.ic(1, 3), 0, due ? 1 : 0);
            }
        }
    }

    private static void fetchOrder() {
        RingGates g = new RingGates(2, 16, 4);
        g.defineSegment(0, 8, 0, 0);
        g.start(0, 8, 7);
        g.run(1);
        check.process("beyond the length and not executable", g,
            RingGates.STATUS_FAULTED, RingGates.F_BOUND, 7, 8, 0, 0);
        g.start(0, 7, 7);
        g.run(1);
        check.process("within the length and not executable", g,
            RingGates.STATUS_FAULTED, RingGates.F_EXEC, 7, 7, 0, 0);
        g.start(1, 15, 0);
        g.run(1);
        check.process("an undefined slot", g, RingGates.STATUS_FAULTED, RingGates.F_SEG, 0, 256 + 15, 0, 0);
    }

    private static void fallingOffTheEnd() {
        RingGates g = new RingGates(8, 32, 4);
        for (int seg = 0; seg < 8; seg++) {
            g.defineSegment(seg, 32, RingGates.FLAG_EXEC, 0);
        }
        for (int length = 1; length <= 32; length++) {
            g.defineSegment(6, length, RingGates.FLAG_EXEC, 0);
            for (int off = 0; off < length; off++) {
                g.poke(6, off, Check.immediate(RingGates.OP_ADI, 1));
            }
            g.start(6, 0, 0);
            check.due("a run over " + length + " words", g.run(100), length);
            check.process("the end of " + length + " words", g, RingGates.STATUS_FAULTED,
                RingGates.F_BOUND, 0, Check.ic(6, length), length, length);
        }
    }
}

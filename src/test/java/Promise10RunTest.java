/** Promise 10: how many steps run takes, what it answers, and what a step is. */
public final class Promise10RunTest {
    private static final Check check = new Check("promise 10, run");

    public static void main(String[] args) {
        check.sentence("if status is not `STATUS_READY`", Promise10RunTest::notReady);
        check.sentence("or steps < 1, it answers 0 and changes nothing.", Promise10RunTest::fewerThanOneStep);
        check.sentence("Otherwise let n = min(steps, `MAX_RUN`).", Promise10RunTest::mostSteps);
        check.sentence("Steps are taken one after another while fewer than n steps were taken "
            + "and status is `STATUS_READY`.", Promise10RunTest::endsOfARun);
        check.sentence("The answer is the number of completed steps of this call.", Promise10RunTest::answer);
        check.sentence("A faulting step is taken but not completed.", Promise10RunTest::faultingStep);
        check.sentence("A run(steps) call leads to the same state and answer as up to min(steps, `MAX_RUN`) "
            + "successive run(1) calls.", Promise10RunTest::singleSteps);
        check.sentence("Those calls stop at the first that answers 0 or that leaves the status "
            + "not `STATUS_READY`. The answer equals the number of those run(1) calls that answered 1.",
            Promise10RunTest::singleStepsToAnEnd);
        check.sentence("**One step** is taken only with status `STATUS_READY`.", Promise10RunTest::onlyWhenReady);
        check.sentence("A fault sets status to `STATUS_FAULTED` and sets the fault code. Nothing else changes: "
            + "IC still names the faulting instruction, which is not completed, and the count does not grow.",
            Promise10RunTest::everyFault);
        check.sentence("A step that does not fault is completed, and the count of completed instructions "
            + "grows by 1.", Promise10RunTest::everyCompletion);
        check.sentence("This includes `OP_HLT`.", Promise10RunTest::haltIsCompleted);
        check.end();
    }

    private static RingGates endless() {
        return Code.ready(0, Code.immediate(RingGates.OP_ADI, 1), Code.op(RingGates.OP_JMP, 0, 0));
    }

    /** Some steps of ADI, then this word. */
    private static RingGates after(int steps, int word) {
        RingGates g = Code.ready(0);
        for (int i = 0; i < steps; i++) {
            g.poke(Code.CODE, i, Code.immediate(RingGates.OP_ADI, 1));
        }
        g.poke(Code.CODE, steps, word);
        return g;
    }

    private static void notReady() {
        for (int status : Scene.STATUSES) {
            if (status != RingGates.STATUS_READY) {
                for (int steps : new int[] {1, 2, 256, 257, Integer.MAX_VALUE, 0, -1}) {
                    RingGates g = Scene.inStatus(status);
                    check.changesNothing(g, "run(" + steps + ") in status " + status,
                        () -> check.due("run in status " + status, g.run(steps), 0));
                }
            }
        }
    }

    private static void fewerThanOneStep() {
        for (int status : Scene.STATUSES) {
            for (int steps : new int[] {0, -1, -2, -255, -256, -257, Integer.MIN_VALUE}) {
                RingGates g = Scene.inStatus(status);
                check.changesNothing(g, "run(" + steps + ") in status " + status,
                    () -> check.due("run(" + steps + ")", g.run(steps), 0));
            }
        }
        check.due("one step is enough", endless().run(1), 1);
    }

    private static void mostSteps() {
        for (int steps : new int[] {1, 2, 3, 254, 255, 256, 257, 258, 511, 512, 513, 65536, Integer.MAX_VALUE}) {
            RingGates g = endless();
            int due = steps < 256 ? steps : 256;
            check.due("run(" + steps + ")", g.run(steps), due);
            check.due("count", g.state(RingGates.S_COUNT), due);
            check.due("A", g.state(RingGates.S_ACC), (due + 1) / 2);
            check.due("status", g.state(RingGates.S_STATUS), RingGates.STATUS_READY);
        }
    }

    private static void endsOfARun() {
        for (int place = 0; place <= 9; place++) {
            for (int steps = 1; steps <= 12; steps++) {
                String what = "run(" + steps + ") with the end at step " + (place + 1);
                boolean ended = steps > place;
                RingGates halting = after(place, Code.op(RingGates.OP_HLT));
                check.due(what, halting.run(steps), ended ? place + 1 : steps);
                check.due(what, halting.state(RingGates.S_STATUS),
                    ended ? RingGates.STATUS_HALTED : RingGates.STATUS_READY);
                check.due(what, halting.state(RingGates.S_ACC), ended ? place : steps);
                RingGates faulting = after(place, Code.op(16));
                check.due(what, faulting.run(steps), ended ? place : steps);
                check.due(what, faulting.state(RingGates.S_STATUS),
                    ended ? RingGates.STATUS_FAULTED : RingGates.STATUS_READY);
                check.due(what, faulting.state(RingGates.S_ACC), ended ? place : steps);
            }
        }
    }

    private static void answer() {
        RingGates g = after(9, Code.op(RingGates.OP_HLT));
        check.due("the first call", g.run(4), 4);
        check.due("the second call", g.run(3), 3);
        check.due("the third call", g.run(50), 3);
        check.due("the fourth call", g.run(50), 0);
        RingGates twice = endless();
        check.due("a full call", twice.run(300), 256);
        check.due("another full call", twice.run(300), 256);
    }

    private static void faultingStep() {
        RingGates g = after(3, Code.op(16));
        check.due("three steps before a fault", g.run(3), 3);
        check.due("not yet taken", g.state(RingGates.S_STATUS), RingGates.STATUS_READY);
        check.due("the faulting step alone", g.run(1), 0);
        check.due("it is taken", g.state(RingGates.S_STATUS), RingGates.STATUS_FAULTED);
        check.due("it is not completed", g.state(RingGates.S_COUNT), 3);
        RingGates last = after(3, Code.op(16));
        check.due("a run whose last step faults", last.run(4), 3);
        check.due("it is taken", last.state(RingGates.S_STATUS), RingGates.STATUS_FAULTED);
    }

    private static void singleSteps() {
        for (int steps : new int[] {1, 2, 9, 10, 11, 255, 256, 257, 300, Integer.MAX_VALUE}) {
            asSingleSteps(steps, endless(), endless());
            for (int status : Scene.STATUSES) {
                RingGates whole = Scene.inStatus(status);
                RingGates single = Scene.inStatus(status);
                asSingleSteps(steps, whole, single);
                whole.start(Scene.CODE, 0, 4);
                single.start(Scene.CODE, 0, 4);
                asSingleSteps(steps, whole, single);
            }
        }
    }

    private static void singleStepsToAnEnd() {
        for (int word : new int[] {Code.op(RingGates.OP_HLT), Code.op(16), Code.op(RingGates.OP_RET)}) {
            for (int place = 0; place <= 9; place++) {
                for (int steps : new int[] {1, place, place + 1, place + 2, 256, Integer.MAX_VALUE}) {
                    asSingleSteps(steps, after(place, word), after(place, word));
                }
            }
        }
    }

    /** The word at IC could be executed, but no step is taken. */
    private static void onlyWhenReady() {
        RingGates halted = after(1, Code.op(RingGates.OP_HLT));
        check.reaches(halted, 2);
        halted.poke(Code.CODE, 1, Code.immediate(RingGates.OP_ADI, 1));
        check.changesNothing(halted, "run when halted", () -> check.due("run", halted.run(1), 0));
        RingGates faulted = after(1, Code.op(16));
        check.due("a run to a fault", faulted.run(2), 1);
        faulted.poke(Code.CODE, 1, Code.immediate(RingGates.OP_ADI, 1));
        check.changesNothing(faulted, "run when faulted", () -> check.due("run", faulted.run(1), 0));
        RingGates idle = new RingGates(2, 8, 4);
        idle.defineSegment(0, 8, RingGates.FLAG_EXEC, 0);
        idle.poke(0, 0, Code.immediate(RingGates.OP_ADI, 1));
        check.changesNothing(idle, "run when idle", () -> check.due("run", idle.run(1), 0));
        idle.start(0, 0, 0);
        check.reaches(idle, 1);
    }

    private static void asSingleSteps(int steps, RingGates whole, RingGates single) {
        int completed = 0;
        for (int i = 0; i < steps && i < 256; i++) {
            int one = single.run(1);
            completed += one;
            if (one == 0 || single.state(RingGates.S_STATUS) != RingGates.STATUS_READY) {
                break;
            }
        }
        check.due("run(" + steps + ")", whole.run(steps), completed);
        check.same("run(" + steps + ")", View.of(whole), View.of(single));
    }

    /** Each fault once, in a process whose frames, stack and registers all hold something. */
    private static void everyFault() {
        faultAt(Code.op(RingGates.OP_CALL, 0, 0), RingGates.F_SEG);
        faultAt(Code.op(RingGates.OP_CALL, Code.DATA, 16), RingGates.F_BOUND);
        faultAt(Code.op(RingGates.OP_CALL, Code.DATA, 0), RingGates.F_CALL);
        faultAt(Code.op(RingGates.OP_CALL, Code.FREE, 0), RingGates.F_GATE);
        faultAt(Code.op(RingGates.OP_LD), RingGates.F_READ);
        faultAt(Code.op(RingGates.OP_ST), RingGates.F_WRITE);
        faultAt(Code.op(RingGates.OP_PUSH), RingGates.F_STACK);
        faultAt(Code.op(RingGates.OP_CALL, Code.CODE, 0), RingGates.F_FRAMES);
        faultAt(Code.op(16), RingGates.F_OPCODE);
        RingGates g = full();
        g.defineSegment(Code.CODE, 16, RingGates.FLAG_READ, 0);
        check.faults(g, "a fetch of words that are not executable", RingGates.F_EXEC);
        check.due("a run after the fault", g.run(1), 0);
    }

    private static RingGates full() {
        RingGates g = Code.ready(5, Code.op(RingGates.OP_CALL, Code.CODE, 1), Code.op(RingGates.OP_CALL, Code.CODE, 2),
            Code.op(RingGates.OP_CALL, Code.CODE, 3), Code.op(RingGates.OP_CALL, Code.CODE, 4),
            Code.immediate(RingGates.OP_LDI, 9), Code.op(RingGates.OP_PUSH), Code.op(RingGates.OP_PUSH),
            Code.op(RingGates.OP_PUSH), Code.op(RingGates.OP_PUSH), Code.op(RingGates.OP_PTR, Code.FREE, 7),
            Code.op(RingGates.OP_SWP), Code.op(RingGates.OP_PTR, Code.FREE, 6));
        g.defineSegment(Code.FREE, 8, RingGates.FLAG_EXEC, Code.brackets(0, 0, 7));
        check.reaches(g, 12);
        return g;
    }

    private static void faultAt(int word, int code) {
        RingGates g = full();
        g.poke(Code.CODE, 12, word);
        check.faults(g, "the fault " + code, code);
    }

    private static void everyCompletion() {
        for (int op = 0; op <= 15; op++) {
            if (op != RingGates.OP_RET) {
                RingGates g = Code.ready(5, Code.immediate(RingGates.OP_LDI, 9), Code.op(RingGates.OP_PUSH),
                    Code.op(RingGates.OP_PTR, Code.DATA, 0), Code.op(op, Code.CODE, 9));
                completed(g, op);
            }
        }
        completed(Code.ready(5, Code.op(RingGates.OP_CALL, Code.CODE, 1), Code.op(RingGates.OP_SWP),
            Code.op(RingGates.OP_SWP), Code.op(RingGates.OP_RET)), RingGates.OP_RET);
    }

    private static void completed(RingGates g, int op) {
        check.reaches(g, 3);
        check.due("count before op " + op, g.state(RingGates.S_COUNT), 3);
        check.due("op " + op, g.run(1), 1);
        check.due("count after op " + op, g.state(RingGates.S_COUNT), 4);
    }

    private static void haltIsCompleted() {
        RingGates g = after(2, Code.op(RingGates.OP_HLT));
        check.due("a run to the halt", g.run(10), 3);
        check.due("count", g.state(RingGates.S_COUNT), 3);
        check.due("a run after the halt", g.run(10), 0);
        check.due("count", g.state(RingGates.S_COUNT), 3);
    }
}

/** Promise 11: state. */
public final class Promise11StateTest {
    private static final Check check = new Check("promise 11");

    public static void main(String[] args) {
        check.sentence("`S_STATUS`: the status.", Promise11StateTest::status);
        check.sentence("`S_FAULT`: the fault code.", Promise11StateTest::fault);
        check.sentence("`S_RING`: R.", Promise11StateTest::ring);
        check.sentence("`S_IC`: the packed IC, seg*256+off.", Promise11StateTest::counter);
        check.sentence("`S_ACC`: A.", Promise11StateTest::accumulator);
        check.sentence("`S_P` and `S_Q`: the packed pointer, seg<<16 | off<<8 | ring.", Promise11StateTest::pointers);
        check.sentence("`S_DEPTH`: the number of frames.", Promise11StateTest::depth);
        check.sentence("`S_COUNT`: the number of completed instructions since start", Promise11StateTest::count);
        check.sentence("(an int, with wrap-around).", Promise11StateTest::countWraps);
        check.sentence("Any other which answers 0.", Promise11StateTest::otherSelectors);
        check.sentence("It changes nothing.", Promise11StateTest::changesNothing);
        check.end();
    }

    private static void status() {
        for (int status : Scene.STATUSES) {
            check.due("status", Scene.inStatus(status).state(RingGates.S_STATUS), status);
        }
    }

    private static void fault() {
        check.due("no fault in a fresh object", new RingGates(2, 8, 4).state(RingGates.S_FAULT), 0);
        check.due("no fault when halted", Scene.inStatus(RingGates.STATUS_HALTED).state(RingGates.S_FAULT), 0);
        check.due("the greatest code", Scene.inStatus(RingGates.STATUS_FAULTED).state(RingGates.S_FAULT), 10);
        RingGates g = new RingGates(2, 8, 4);
        g.start(0, 0, 0);
        g.run(1);
        check.due("the least code", g.state(RingGates.S_FAULT), 1);
    }

    private static void ring() {
        for (int ring = 0; ring <= 7; ring++) {
            check.due("R", Code.ready(ring).state(RingGates.S_RING), ring);
        }
    }

    private static void counter() {
        RingGates g = new RingGates(8, 32, 4);
        for (int seg = 0; seg < 8; seg++) {
            for (int off = 0; off < 32; off++) {
                g.start(seg, off, 0);
                check.due("IC", g.state(RingGates.S_IC), 256 * seg + off);
            }
        }
        g.defineSegment(7, 1, RingGates.FLAG_EXEC, 0);
        g.poke(7, 0, Code.op(RingGates.OP_JMP, 0, 255));
        g.start(7, 0, 0);
        check.reaches(g, 1);
        check.due("the greatest IC", g.state(RingGates.S_IC), 2047);
    }

    private static void accumulator() {
        for (int value : Code.INTS) {
            check.due("A", Code.withA(value).state(RingGates.S_ACC), value);
        }
    }

    private static void pointers() {
        for (int part : new int[] {0, 1, 127, 128, 255}) {
            for (int ring = 0; ring <= 7; ring++) {
                RingGates g = Code.ready(ring, Code.op(RingGates.OP_PTR, part, 255 - part),
                    Code.op(RingGates.OP_SWP), Code.op(RingGates.OP_PTR, 255 - part, part));
                check.reaches(g, 3);
                check.due("P", g.state(RingGates.S_P), (255 - part) * 65536 + part * 256 + ring);
                check.due("Q", g.state(RingGates.S_Q), part * 65536 + (255 - part) * 256 + ring);
            }
        }
        RingGates g = Code.ready(7, Code.op(RingGates.OP_PTR, 255, 255));
        check.reaches(g, 1);
        check.due("the greatest P", g.state(RingGates.S_P), 0xFFFF07);
    }

    private static void depth() {
        for (int depth = 4; depth <= 16; depth++) {
            RingGates g = Code.readyWithDepth(depth, 0, Code.op(RingGates.OP_CALL, Code.CODE, 0));
            for (int frames = 0; frames < depth; frames++) {
                check.due("frames", g.state(RingGates.S_DEPTH), frames);
                check.reaches(g, 1);
            }
            check.due("all frames", g.state(RingGates.S_DEPTH), depth);
        }
    }

    private static void count() {
        RingGates g = Code.ready(0, Code.op(RingGates.OP_JMP, 0, 0));
        check.due("before the first step", g.state(RingGates.S_COUNT), 0);
        check.reaches(g, 1);
        check.due("after one step", g.state(RingGates.S_COUNT), 1);
        for (int calls = 1; calls <= 300; calls++) {
            check.reaches(g, 256);
            check.due("after " + calls + " full runs more", g.state(RingGates.S_COUNT), 1 + 256 * calls);
        }
        g.poke(Code.CODE, 0, Code.op(16));
        g.run(9);
        check.due("after a fault", g.state(RingGates.S_COUNT), 1 + 256 * 300);
    }

    /** No call sets the count, so the wrap-around is reached by that many steps: some seconds. */
    private static void countWraps() {
        RingGates g = Code.ready(0, Code.op(RingGates.OP_JMP, 0, 0));
        long completed = 0;
        for (int calls = 0; calls < Integer.MAX_VALUE / 256; calls++) {
            completed += g.run(256);
        }
        check.due("steps below the greatest count", completed, Integer.MAX_VALUE - 255L);
        check.reaches(g, 255);
        check.due("the greatest count", g.state(RingGates.S_COUNT), Integer.MAX_VALUE);
        View want = View.of(g).state(RingGates.S_COUNT, Integer.MIN_VALUE);
        check.reaches(g, 1);
        check.same("one step more", View.of(g), want);
        check.reaches(g, 256);
        check.due("the count goes on from the least int", g.state(RingGates.S_COUNT), Integer.MIN_VALUE + 256);
        g.start(Code.CODE, 0, 0);
        check.due("the count after start", g.state(RingGates.S_COUNT), 0);
    }

    private static void otherSelectors() {
        for (int status : Scene.STATUSES) {
            RingGates g = Scene.inStatus(status);
            for (int which : Code.outside(RingGates.S_STATUS, RingGates.S_COUNT)) {
                check.due("state(" + which + ")", g.state(which), 0);
            }
        }
    }

    private static void changesNothing() {
        for (int status : Scene.STATUSES) {
            RingGates g = Scene.inStatus(status);
            check.changesNothing(g, "state in status " + status, () -> {
                for (int which = -2; which <= 10; which++) {
                    g.state(which);
                }
            });
        }
    }
}

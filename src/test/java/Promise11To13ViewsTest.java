import java.util.List;

/** Promises 11, 12 and 13: state, frame, stackHeight and stackValue. */
public final class Promise11To13ViewsTest {
    private static final Check check = new Check("promises 11 to 13");
    private static final int MIN = Integer.MIN_VALUE;
    private static final int MAX = Integer.MAX_VALUE;

    public static void main(String[] args) {
        for (int status : Scene.STATUSES) {
            RingGates g = Scene.inStatus(status);
            List<String> before = Check.fullView(g);
            wrongInputs(g, status == RingGates.STATUS_IDLE ? 0 : 1);
            check.same("looking in status " + status, Check.fullView(g), before);
        }
        states(RingGates.STATUS_READY, RingGates.F_NONE, 9);
        states(RingGates.STATUS_HALTED, RingGates.F_NONE, 10);
        states(RingGates.STATUS_FAULTED, RingGates.F_OPCODE, 9);
        frames();
        stacks();
        manyFrames();
        widePointers();
        check.end();
    }

    private static void wrongInputs(RingGates g, int frames) {
        int[] selectors = {MIN, -9, -1, 9, 10, 256, MAX};
        for (int which : selectors) {
            check.due("state(" + which + ")", g.state(which), 0);
        }
        int[] levels = {MIN, -1, frames, 8, 16, MAX};
        for (int level : levels) {
            for (int field = 0; field <= 5; field++) {
                check.due("frame(" + level + ", " + field + ")", g.frame(level, field), -1);
            }
        }
        int[] fields = {MIN, -1, 6, 7, MAX};
        for (int field : fields) {
            check.due("frame(0, " + field + ")", g.frame(0, field), -1);
        }
        int[] rings = {MIN, -1, 8, 9, MAX};
        for (int ring : rings) {
            check.due("stackHeight(" + ring + ")", g.stackHeight(ring), -1);
            check.due("stackValue(" + ring + ", 0)", g.stackValue(ring, 0), 0);
        }
        int[] indices = {MIN, -1, 2, 8, 16, MAX};
        for (int index : indices) {
            check.due("stackValue(1, " + index + ")", g.stackValue(1, index), 0);
            check.due("stackValue(4, " + index + ")", g.stackValue(4, index), 0);
        }
        check.due("no value below ring 4", g.stackValue(4, -1), 0);
    }

    private static void states(int status, int fault, int count) {
        RingGates g = Scene.inStatus(status);
        check.process("status " + status, g, status, fault, 1, Check.ic(Scene.GATED, 5), 22, count);
        check.due("P", g.state(RingGates.S_P), Check.pointer(Scene.DATA, 7, 4));
        check.due("Q", g.state(RingGates.S_Q), Check.pointer(Scene.DATA, 15, 4));
        check.due("frames", g.state(RingGates.S_DEPTH), 1);
    }

    private static void frames() {
        RingGates g = Scene.inStatus(RingGates.STATUS_READY);
        check.due("return", g.frame(0, RingGates.FR_RETURN), Check.ic(Scene.CODE, 6));
        check.due("caller's ring", g.frame(0, RingGates.FR_CALLER_RING), 4);
        check.due("floor", g.frame(0, RingGates.FR_FLOOR), 0);
        check.due("saved P", g.frame(0, RingGates.FR_SAVED_P), Check.pointer(Scene.DATA, 7, 4));
        check.due("saved Q", g.frame(0, RingGates.FR_SAVED_Q), Check.pointer(Scene.DATA, 15, 4));
        check.due("ring", g.frame(0, RingGates.FR_RING), 1);
    }

    private static void stacks() {
        RingGates g = Scene.inStatus(RingGates.STATUS_READY);
        int[] heights = {0, 2, 0, 0, 1, 0, 0, 0};
        for (int ring = 0; ring <= 7; ring++) {
            check.due("stackHeight(" + ring + ")", g.stackHeight(ring), heights[ring]);
        }
        check.due("bottom of ring 1", g.stackValue(1, 0), 22);
        check.due("top of ring 1", g.stackValue(1, 1), 22);
        check.due("ring 4", g.stackValue(4, 0), 11);
        check.due("ring 0", g.stackValue(0, 0), 0);
        check.due("ring 2", g.stackValue(2, 0), 0);
    }

    /** Level 0 is the oldest: every call has pushed one value more and another pointer. */
    private static void manyFrames() {
        RingGates g = new RingGates(8, 32, 16);
        g.defineSegment(5, 32, RingGates.FLAG_EXEC, Check.brackets(3, 3, 3));
        g.start(5, 0, 3);
        for (int i = 0; i < 16; i++) {
            Check.program(g, 5, 0, Check.immediate(RingGates.OP_LDI, 100 + i), Check.word(RingGates.OP_PUSH),
                Check.word(RingGates.OP_PTR, i, 2 * i), Check.word(RingGates.OP_JMP, 0, 4 + i));
            g.poke(5, 4 + i, Check.word(RingGates.OP_CALL, 5, 0));
            check.due("to call " + i, g.run(5), 5);
        }
        for (int i = 0; i < 16; i++) {
            check.due("return of " + i, g.frame(i, RingGates.FR_RETURN), Check.ic(5, 5 + i));
            check.due("caller's ring of " + i, g.frame(i, RingGates.FR_CALLER_RING), 3);
            check.due("floor of " + i, g.frame(i, RingGates.FR_FLOOR), i + 1);
            check.due("saved P of " + i, g.frame(i, RingGates.FR_SAVED_P), Check.pointer(i, 2 * i, 3));
            check.due("saved Q of " + i, g.frame(i, RingGates.FR_SAVED_Q), Check.pointer(0, 0, 3));
            check.due("ring of " + i, g.frame(i, RingGates.FR_RING), 3);
            check.due("value " + i, g.stackValue(3, i), 100 + i);
        }
        check.due("frame 16", g.frame(16, 0), -1);
        check.due("value 16", g.stackValue(3, 16), 0);
        check.due("height", g.stackHeight(3), 16);
        check.due("depth", g.state(RingGates.S_DEPTH), 16);
        g.poke(5, 0, Check.word(RingGates.OP_RET));
        check.due("one return", g.run(1), 1);
        check.due("the innermost frame is gone", g.frame(15, 0), -1);
        check.due("the one before stays", g.frame(14, RingGates.FR_FLOOR), 15);
    }

    private static void widePointers() {
        RingGates g = new RingGates(2, 8, 4);
        g.defineSegment(0, 8, RingGates.FLAG_EXEC, Check.brackets(7, 7, 7));
        Check.program(g, 0, 0, Check.word(RingGates.OP_PTR, 255, 255), Check.word(RingGates.OP_SWP),
            Check.word(RingGates.OP_PTR, 128, 254), Check.word(RingGates.OP_CALL, 0, 0));
        g.start(0, 0, 7);
        g.run(4);
        check.due("the greatest Q", g.state(RingGates.S_Q), 0xFFFF07);
        check.due("a great P", g.state(RingGates.S_P), 0x80FE07);
        check.due("the greatest saved Q", g.frame(0, RingGates.FR_SAVED_Q), 0xFFFF07);
        check.due("a great saved P", g.frame(0, RingGates.FR_SAVED_P), 0x80FE07);
    }
}

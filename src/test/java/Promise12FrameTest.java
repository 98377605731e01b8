/** Promise 12: frame. */
public final class Promise12FrameTest {
    private static final Check check = new Check("promise 12");

    public static void main(String[] args) {
        check.sentence("`frame(level, field)` answers field `FR_*` of frame level, where level 0 is the oldest "
            + "and level `S_DEPTH`-1 is the innermost.", Promise12FrameTest::everyLevel);
        check.sentence("Pointers (`FR_SAVED_P`, `FR_SAVED_Q`) are answered packed,", Promise12FrameTest::pointers);
        check.sentence("and `FR_RETURN` is the packed return IC.", Promise12FrameTest::returnCounter);
        check.sentence("It answers -1 if level is not in 0..`S_DEPTH`-1", Promise12FrameTest::noLevel);
        check.sentence("or field is not one of `FR_RETURN`, `FR_CALLER_RING`, `FR_FLOOR`, `FR_SAVED_P`, "
            + "`FR_SAVED_Q`, `FR_RING`.", Promise12FrameTest::noField);
        check.sentence("It changes nothing.", Promise12FrameTest::changesNothing);
        check.end();
    }

    /** Each call has pushed one value more and made another pointer, and stands at another word. */
    private static RingGates nested(int frames) {
        RingGates g = new RingGates(8, 32, 16);
        g.defineSegment(5, 32, RingGates.FLAG_EXEC, Code.brackets(3, 3, 3));
        g.start(5, 0, 3);
        for (int i = 0; i < frames; i++) {
            Code.put(g, 5, 0, Code.immediate(RingGates.OP_LDI, 100 + i), Code.op(RingGates.OP_PUSH),
                Code.op(RingGates.OP_PTR, i, 2 * i), Code.op(RingGates.OP_JMP, 0, 4 + i));
            g.poke(5, 4 + i, Code.op(RingGates.OP_CALL, 5, 0));
            check.reaches(g, 5);
        }
        return g;
    }

    private static void everyLevel() {
        for (int frames : new int[] {1, 2, 15, 16}) {
            RingGates g = nested(frames);
            for (int i = 0; i < frames; i++) {
                check.due("return of " + i, g.frame(i, RingGates.FR_RETURN), Code.ic(5, 5 + i));
                check.due("caller's ring of " + i, g.frame(i, RingGates.FR_CALLER_RING), 3);
                check.due("floor of " + i, g.frame(i, RingGates.FR_FLOOR), i + 1);
                check.due("saved P of " + i, g.frame(i, RingGates.FR_SAVED_P), Code.pointer(i, 2 * i, 3));
                check.due("saved Q of " + i, g.frame(i, RingGates.FR_SAVED_Q), Code.pointer(0, 0, 3));
                check.due("ring of " + i, g.frame(i, RingGates.FR_RING), 3);
            }
        }
        RingGates apart = Scene.inStatus(RingGates.STATUS_READY);
        check.due("caller's ring", apart.frame(0, RingGates.FR_CALLER_RING), 4);
        check.due("ring", apart.frame(0, RingGates.FR_RING), 1);
        check.due("saved Q", apart.frame(0, RingGates.FR_SAVED_Q), Code.pointer(Scene.DATA, 15, 4));
    }

    private static void pointers() {
        RingGates g = Code.ready(7, Code.op(RingGates.OP_PTR, 255, 255), Code.op(RingGates.OP_SWP),
            Code.op(RingGates.OP_PTR, 128, 254), Code.op(RingGates.OP_CALL, Code.CODE, 0));
        check.reaches(g, 4);
        check.due("a great saved P", g.frame(0, RingGates.FR_SAVED_P), 0x80FE07);
        check.due("the greatest saved Q", g.frame(0, RingGates.FR_SAVED_Q), 0xFFFF07);
        RingGates least = Code.ready(0, Code.op(RingGates.OP_CALL, Code.CODE, 0));
        check.reaches(least, 1);
        check.due("the least saved P", least.frame(0, RingGates.FR_SAVED_P), 0);
        check.due("the least saved Q", least.frame(0, RingGates.FR_SAVED_Q), 0);
    }

    private static void returnCounter() {
        RingGates g = new RingGates(8, 32, 4);
        g.defineSegment(0, 1, RingGates.FLAG_EXEC, 0);
        g.defineSegment(7, 32, RingGates.FLAG_EXEC, 0);
        g.poke(0, 0, Code.op(RingGates.OP_CALL, 7, 31));
        g.poke(7, 31, Code.op(RingGates.OP_CALL, 0, 0));
        g.start(0, 0, 0);
        check.reaches(g, 2);
        check.due("the least return", g.frame(0, RingGates.FR_RETURN), 1);
        check.due("the greatest return", g.frame(1, RingGates.FR_RETURN), 7 * 256 + 32);
    }

    private static void noLevel() {
        for (int frames : new int[] {0, 1, 2, 15, 16}) {
            RingGates g = nested(frames);
            for (int field = 0; field <= 5; field++) {
                for (int level : Code.outside(0, frames - 1)) {
                    check.due("frame(" + level + ", " + field + ") of " + frames, g.frame(level, field), -1);
                }
                check.is("the first frame", g.frame(0, field) >= 0, frames > 0);
                check.is("the innermost frame", g.frame(frames - 1, field) >= 0, frames > 0);
            }
        }
        RingGates g = nested(2);
        g.poke(5, 0, Code.op(RingGates.OP_RET));
        check.reaches(g, 1);
        check.due("a frame that was removed", g.frame(1, 0), -1);
    }

    private static void noField() {
        for (int frames : new int[] {0, 1, 2, 16}) {
            RingGates g = nested(frames);
            for (int level = 0; level < frames; level++) {
                for (int field : Code.outside(RingGates.FR_RETURN, RingGates.FR_RING)) {
                    check.due("frame(" + level + ", " + field + ")", g.frame(level, field), -1);
                }
            }
        }
    }

    private static void changesNothing() {
        for (int status : Scene.STATUSES) {
            RingGates g = Scene.inStatus(status);
            check.changesNothing(g, "frame in status " + status, () -> {
                for (int level = -1; level <= 16; level++) {
                    for (int field = -1; field <= 6; field++) {
                        g.frame(level, field);
                    }
                }
            });
        }
    }
}

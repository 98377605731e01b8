/** Promise 13: stackHeight and stackValue. */
public final class Promise13StacksTest {
    private static final Check check = new Check("promise 13");

    public static void main(String[] args) {
        check.sentence("`stackHeight(ring)` answers the height of ring's stack (0..depth),",
            Promise13StacksTest::height);
        check.sentence("or -1 if ring is not in 0..7.", Promise13StacksTest::heightOfNoRing);
        check.sentence("`stackValue(ring, index)` answers value number index of ring's stack, "
            + "with index 0 the bottom.", Promise13StacksTest::value);
        check.sentence("It answers 0 if ring is not in 0..7", Promise13StacksTest::valueOfNoRing);
        check.sentence("or index is not in 0..height-1.", Promise13StacksTest::valueOutside);
        check.sentence("Neither method changes anything.", Promise13StacksTest::changesNothing);
        check.end();
    }

    /** The ring's stack holds 7, 14, 21 .. from the bottom. */
    private static RingGates pushed(int depth, int ring, int values) {
        RingGates g = Code.readyWithDepth(depth, ring, Code.immediate(RingGates.OP_ADI, 7),
            Code.op(RingGates.OP_PUSH), Code.op(RingGates.OP_JMP, 0, 0));
        if (values > 0) {
            check.reaches(g, 3 * values);
        }
        return g;
    }

    private static void height() {
        for (int depth = 4; depth <= 16; depth++) {
            for (int ring = 0; ring <= 7; ring++) {
                for (int values : new int[] {0, 1, depth - 1, depth}) {
                    RingGates g = pushed(depth, ring, values);
                    for (int k = 0; k <= 7; k++) {
                        check.due("stackHeight(" + k + ")", g.stackHeight(k), k == ring ? values : 0);
                    }
                }
            }
        }
        RingGates two = Scene.inStatus(RingGates.STATUS_READY);
        check.due("ring 1 of two rings", two.stackHeight(1), 2);
        check.due("ring 4 of two rings", two.stackHeight(4), 1);
    }

    private static void heightOfNoRing() {
        for (int status : Scene.STATUSES) {
            RingGates g = Scene.inStatus(status);
            for (int ring : Code.outside(0, 7)) {
                check.due("stackHeight(" + ring + ")", g.stackHeight(ring), -1);
            }
        }
        for (int ring = 0; ring <= 7; ring += 7) {
            check.due("stackHeight(" + ring + ")", pushed(16, ring, 16).stackHeight(ring), 16);
        }
    }

    private static void value() {
        for (int ring = 0; ring <= 7; ring++) {
            RingGates g = pushed(16, ring, 16);
            for (int index = 0; index <= 15; index++) {
                check.due("stackValue(" + ring + ", " + index + ")", g.stackValue(ring, index), 7 * index + 7);
            }
        }
        for (int value : Code.INTS) {
            RingGates g = Code.withA(value, Code.op(RingGates.OP_PUSH));
            check.reaches(g, 1);
            check.due("the value", g.stackValue(0, 0), value);
        }
        RingGates two = Scene.inStatus(RingGates.STATUS_READY);
        check.due("ring 1 of two rings", two.stackValue(1, 1), 22);
        check.due("ring 4 of two rings", two.stackValue(4, 0), 11);
    }

    private static void valueOfNoRing() {
        for (int full = 0; full <= 7; full += 7) {
            RingGates g = pushed(16, full, 16);
            for (int ring : Code.outside(0, 7)) {
                for (int index : new int[] {0, 1, 15, -1, -16, 16}) {
                    check.due("stackValue(" + ring + ", " + index + ")", g.stackValue(ring, index), 0);
                }
            }
        }
    }

    private static void valueOutside() {
        for (int ring = 0; ring <= 7; ring++) {
            for (int values : new int[] {0, 1, 3, 4, 15, 16}) {
                RingGates g = pushed(16, ring, values);
                for (int index : Code.outside(0, values - 1)) {
                    check.due("stackValue(" + ring + ", " + index + ") of " + values, g.stackValue(ring, index), 0);
                }
                for (int index = 0; index <= 16; index++) {
                    check.due("a value of the next ring", g.stackValue((ring + 1) % 8, index), 0);
                }
            }
        }
        RingGates g = Code.ready(2, Code.immediate(RingGates.OP_LDI, 5), Code.op(RingGates.OP_PUSH),
            Code.op(RingGates.OP_POP));
        check.reaches(g, 3);
        check.due("a value that was removed", g.stackValue(2, 0), 0);
    }

    private static void changesNothing() {
        for (int status : Scene.STATUSES) {
            RingGates g = Scene.inStatus(status);
            check.changesNothing(g, "looking at the stacks in status " + status, () -> {
                for (int ring = -1; ring <= 8; ring++) {
                    g.stackHeight(ring);
                    for (int index = -1; index <= 17; index++) {
                        g.stackValue(ring, index);
                    }
                }
            });
        }
    }
}

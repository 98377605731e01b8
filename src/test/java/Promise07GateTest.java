/** Promise 7: gate. */
public final class Promise07GateTest {
    private static final Check check = new Check("promise 7");

    public static void main(String[] args) {
        check.sentence("`gate(seg, index)` answers the offset of gate number index of slot seg.",
            Promise07GateTest::answersTheOffset);
        check.sentence("It answers -1 if seg is not a defined slot", Promise07GateTest::noDefinedSlot);
        check.sentence("or index is not in 0..gateCount-1.", Promise07GateTest::outsideTheList);
        check.sentence("It changes nothing.", Promise07GateTest::changesNothing);
        check.end();
    }

    private static RingGates gated(int segments, int count) {
        RingGates g = new RingGates(segments, 32, 4);
        for (int seg = 0; seg < segments; seg++) {
            g.defineSegment(seg, 32, 4, 0);
            for (int index = 0; index < count; index++) {
                g.addGate(seg, offset(seg, index));
            }
        }
        return g;
    }

    private static int offset(int seg, int index) {
        return 31 - 8 * index - seg;
    }

    private static void answersTheOffset() {
        RingGates g = gated(8, 4);
        for (int seg = 0; seg < 8; seg++) {
            for (int index = 0; index < 4; index++) {
                check.due("gate(" + seg + ", " + index + ")", g.gate(seg, index), offset(seg, index));
            }
        }
        check.due("the greatest offset", g.gate(0, 0), 31);
        check.due("the least offset", g.gate(7, 3), 0);
    }

    private static void noDefinedSlot() {
        for (int segments = 2; segments <= 8; segments++) {
            RingGates g = gated(segments, 4);
            for (int seg : Code.outside(0, segments - 1)) {
                for (int index = 0; index <= 4; index++) {
                    check.due("gate(" + seg + ", " + index + ")", g.gate(seg, index), -1);
                }
            }
            RingGates fresh = new RingGates(segments, 32, 4);
            check.due("a gate of the first slot, undefined", fresh.gate(0, 0), -1);
            check.due("a gate of the last slot, undefined", fresh.gate(segments - 1, 0), -1);
        }
    }

    private static void outsideTheList() {
        for (int count = 0; count <= 4; count++) {
            RingGates g = gated(3, count);
            for (int index = 0; index < count; index++) {
                check.due("gate(1, " + index + ") of " + count, g.gate(1, index), offset(1, index));
            }
            for (int index : Code.outside(0, count - 1)) {
                check.due("gate(1, " + index + ") of " + count, g.gate(1, index), -1);
            }
        }
    }

    private static void changesNothing() {
        for (int status : Scene.STATUSES) {
            RingGates g = Scene.inStatus(status);
            check.changesNothing(g, "gate in status " + status, () -> {
                for (int seg = -1; seg <= 8; seg++) {
                    for (int index = -1; index <= 5; index++) {
                        g.gate(seg, index);
                    }
                }
            });
        }
    }
}

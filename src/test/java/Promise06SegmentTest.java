/** Promise 6: segment. */
public final class Promise06SegmentTest {
    private static final Check check = new Check("promise 6");

    public static void main(String[] args) {
        check.sentence("For a defined slot, `segment(seg)` answers:", Promise06SegmentTest::everyShape);
        check.sentence("`L | flags<<8 | r1<<12 | r2<<16 | r3<<20 | gateCount<<24`",
            Promise06SegmentTest::leastAndGreatest);
        check.sentence("For any other seg (undefined slot, negative, or not below segments) it answers -1.",
            Promise06SegmentTest::noDefinedSlot);
        check.sentence("It changes nothing.", Promise06SegmentTest::changesNothing);
        check.end();
    }

    private static void everyShape() {
        RingGates g = new RingGates(8, 32, 4);
        for (int length = 1; length <= 32; length++) {
            for (int gates = 0; gates <= 4; gates++) {
                int seg = length % 8;
                int flags = (length + gates) % 8;
                g.defineSegment(seg, length, flags, Code.brackets(gates, gates + 1, 7));
                for (int index = 0; index < gates; index++) {
                    g.addGate(seg, index);
                }
                check.due("length " + length + " with " + gates + " gates", g.segment(seg), length | flags << 8
                    | gates << 12 | gates + 1 << 16 | 7 << 20 | Math.min(gates, length) << 24);
            }
        }
    }

    private static void leastAndGreatest() {
        RingGates g = new RingGates(8, 32, 4);
        g.defineSegment(0, 1, 0, 0);
        check.due("the least segment", g.segment(0), 1);
        g.defineSegment(7, 32, 7, Code.brackets(7, 7, 7));
        for (int off = 0; off < 4; off++) {
            g.addGate(7, off);
        }
        check.due("the greatest segment", g.segment(7), 0x04777720);
    }

    private static void noDefinedSlot() {
        for (int segments = 2; segments <= 8; segments++) {
            RingGates g = new RingGates(segments, 8, 4);
            check.due("the first slot, undefined", g.segment(0), -1);
            check.due("the last slot, undefined", g.segment(segments - 1), -1);
            for (int seg = 0; seg < segments; seg++) {
                g.defineSegment(seg, 8, 7, 0);
            }
            check.due("the last slot, defined", g.segment(segments - 1), 8 | 7 << 8);
            for (int seg : Code.outside(0, segments - 1)) {
                check.due("segment(" + seg + ")", g.segment(seg), -1);
            }
        }
    }

    private static void changesNothing() {
        for (int status : Scene.STATUSES) {
            RingGates g = Scene.inStatus(status);
            check.changesNothing(g, "segment in status " + status, () -> {
                for (int seg = -1; seg <= 8; seg++) {
                    g.segment(seg);
                }
            });
        }
    }
}

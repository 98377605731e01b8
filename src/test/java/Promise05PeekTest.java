/** Promise 5: peek. */
public final class Promise05PeekTest {
    private static final Check check = new Check("promise 5");

    public static void main(String[] args) {
        check.sentence("`peek(seg, off)` answers word off of slot seg.", Promise05PeekTest::answersTheWord);
        check.sentence("It answers 0 if seg is not a defined slot", Promise05PeekTest::noDefinedSlot);
        check.sentence("or off is not in 0..L-1.", Promise05PeekTest::outsideTheLength);
        check.sentence("It changes nothing.", Promise05PeekTest::changesNothing);
        check.end();
    }

    private static void answersTheWord() {
        RingGates g = new RingGates(2, 32, 4);
        g.defineSegment(0, 32, 0, 0);
        g.defineSegment(1, 32, 0, 0);
        check.due("an untouched word", g.peek(1, 0), 0);
        for (int value : Code.INTS) {
            g.poke(0, 31, value);
            g.poke(1, 0, ~value);
            check.due("the last word", g.peek(0, 31), value);
            check.due("the first word", g.peek(1, 0), ~value);
        }
    }

    private static void noDefinedSlot() {
        for (int segments = 2; segments <= 8; segments++) {
            RingGates g = new RingGates(segments, 8, 4);
            for (int seg = 0; seg < segments - 1; seg++) {
                g.defineSegment(seg, 8, 7, 0);
                g.poke(seg, 0, 9);
                g.poke(seg, 7, 9);
            }
            check.due("peek of an undefined slot", g.peek(segments - 1, 0), 0);
            for (int seg : Code.outside(0, segments - 1)) {
                check.due("peek(" + seg + ", 0)", g.peek(seg, 0), 0);
                check.due("peek(" + seg + ", 7)", g.peek(seg, 7), 0);
            }
        }
    }

    private static void outsideTheLength() {
        for (int length = 1; length <= 32; length++) {
            RingGates g = new RingGates(3, 32, 4);
            for (int seg = 0; seg <= 2; seg++) {
                g.defineSegment(seg, seg == 1 ? length : 32, 7, 0);
                for (int off = 0; off < 32; off++) {
                    g.poke(seg, off, 100 * seg + off + 1);
                }
            }
            check.due("the first word", g.peek(1, 0), 101);
            check.due("the last word", g.peek(1, length - 1), 100 + length);
            for (int beyond = 1; beyond <= 40; beyond++) {
                check.due("peek before the first word", g.peek(1, -beyond), 0);
                check.due("peek behind the last word", g.peek(1, length - 1 + beyond), 0);
            }
            for (int off : Code.outside(0, length - 1)) {
                check.due("peek(1, " + off + ") with length " + length, g.peek(1, off), 0);
            }
        }
    }

    private static void changesNothing() {
        for (int status : Scene.STATUSES) {
            RingGates g = Scene.inStatus(status);
            check.changesNothing(g, "peek in status " + status, () -> {
                for (int seg = -1; seg <= 8; seg++) {
                    for (int off = -1; off <= 32; off++) {
                        g.peek(seg, off);
                    }
                }
            });
        }
    }
}

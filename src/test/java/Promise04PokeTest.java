/** Promise 4: poke. */
public final class Promise04PokeTest {
    private static final Check check = new Check("promise 4");

    public static void main(String[] args) {
        check.sentence("`poke(seg, off, value)` is a supervisor write with no ring tests.",
            Promise04PokeTest::noRingTests);
        check.sentence("It is refused (answers false, no change) unless seg is a defined slot",
            Promise04PokeTest::definedSlot);
        check.sentence("and 0 <= off < L.", Promise04PokeTest::offset);
        check.sentence("Otherwise word off of seg becomes value, and it answers true.", Promise04PokeTest::everyWord);
        check.sentence("Any int value is accepted.", Promise04PokeTest::everyValue);
        check.sentence("Nothing else changes, in any status.", Promise04PokeTest::nothingElse);
        check.end();
    }

    private static void refused(RingGates g, int seg, int off) {
        check.refused(g, "poke(" + seg + ", " + off + ", 9)", () -> g.poke(seg, off, 9));
    }

    private static void noRingTests() {
        for (int flags = 0; flags <= 7; flags++) {
            for (int ring = 0; ring <= 7; ring++) {
                RingGates g = new RingGates(2, 8, 4);
                g.defineSegment(0, 8, flags, 0);
                g.start(0, 0, ring);
                check.yes("poke with flags " + flags + " at ring " + ring, g.poke(0, 7, 123));
                check.due("the word", g.peek(0, 7), 123);
            }
        }
    }

    private static void definedSlot() {
        for (int segments = 2; segments <= 8; segments++) {
            RingGates g = new RingGates(segments, 16, 4);
            refused(g, 0, 0);
            refused(g, segments - 1, 0);
            for (int seg : Code.outside(0, segments - 1)) {
                refused(g, seg, 0);
            }
            g.defineSegment(0, 8, 0, 0);
            g.defineSegment(segments - 1, 8, 0, 0);
            check.yes("the first slot", g.poke(0, 0, 9));
            check.yes("the last slot", g.poke(segments - 1, 0, 9));
        }
        for (int status : Scene.STATUSES) {
            refused(Scene.inStatus(status), Scene.UNDEFINED, 0);
            refused(Scene.inStatus(status), -1, 0);
            refused(Scene.inStatus(status), Scene.SLOTS, 0);
        }
    }

    private static void offset() {
        for (int length = 1; length <= 32; length++) {
            RingGates g = new RingGates(3, 32, 4);
            g.defineSegment(0, 32, 7, 0);
            g.defineSegment(1, length, 7, 0);
            g.defineSegment(2, 32, 7, 0);
            for (int off : Code.outside(0, length - 1)) {
                refused(g, 1, off);
            }
            check.yes("the first word", g.poke(1, 0, 9));
            check.yes("the last word", g.poke(1, length - 1, 9));
        }
        for (int status : Scene.STATUSES) {
            refused(Scene.inStatus(status), Scene.GATED, -1);
            refused(Scene.inStatus(status), Scene.GATED, Scene.GATED_LENGTH);
        }
    }

    private static void everyWord() {
        RingGates g = new RingGates(8, 32, 4);
        for (int seg = 0; seg < 8; seg++) {
            g.defineSegment(seg, 32, 0, 0);
        }
        for (int i = 0; i < 256; i++) {
            check.yes("poke number " + i, g.poke(i / 32, i % 32, 5000 - i));
        }
        for (int i = 0; i < 256; i++) {
            check.due("word number " + i, g.peek(i / 32, i % 32), 5000 - i);
        }
    }

    private static void everyValue() {
        RingGates g = new RingGates(2, 8, 4);
        g.defineSegment(1, 8, 0, 0);
        for (int value : Code.INTS) {
            check.yes("poke " + value, g.poke(1, 7, value));
            check.due("the word", g.peek(1, 7), value);
        }
    }

    private static void nothingElse() {
        for (int status : Scene.STATUSES) {
            for (int seg = 0; seg < Scene.UNDEFINED; seg++) {
                for (int off : new int[] {0, (Scene.inStatus(status).segment(seg) & 255) - 1}) {
                    RingGates g = Scene.inStatus(status);
                    View want = View.of(g).word(seg, off, -99);
                    check.yes("poke in status " + status, g.poke(seg, off, -99));
                    check.same("poke in status " + status, View.of(g), want);
                }
            }
        }
    }
}

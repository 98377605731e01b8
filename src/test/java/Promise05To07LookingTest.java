import java.util.List;

/** Promises 5, 6 and 7: peek, segment and gate. */
public final class Promise05To07LookingTest {
    private static final Check check = new Check("promises 5 to 7");
    private static final int[] NO_SLOTS = {Integer.MIN_VALUE, -1, 3, 4, 7, 8, 256, Integer.MAX_VALUE};

    public static void main(String[] args) {
        for (int status : Scene.STATUSES) {
            RingGates g = Scene.inStatus(status);
            List<String> before = Check.fullView(g);
            peeks(g);
            segments(g);
            gates(g);
            check.same("looking in status " + status, Check.fullView(g), before);
        }
        everyShape();
        beyondTheLength();
        check.end();
    }

    private static void peeks(RingGates g) {
        check.due("a word", g.peek(Scene.DATA, 0), 77);
        check.due("a negative word", g.peek(Scene.DATA, 15), -5);
        check.due("an untouched word", g.peek(Scene.DATA, 1), 0);
        for (int seg : NO_SLOTS) {
            check.due("peek(" + seg + ", 0)", g.peek(seg, 0), 0);
        }
        int[] offs = {Integer.MIN_VALUE, -17, -16, -1, 16, 17, 32, Integer.MAX_VALUE};
        for (int off : offs) {
            check.due("peek at " + off, g.peek(Scene.DATA, off), 0);
        }
    }

    private static void segments(RingGates g) {
        check.due("the gated segment", g.segment(Scene.GATED),
            12 | 4 << 8 | 1 << 12 | 1 << 16 | 6 << 20 | 2 << 24);
        check.due("the data segment", g.segment(Scene.DATA), 16 | 3 << 8 | 4 << 12 | 5 << 16 | 5 << 20);
        for (int seg : NO_SLOTS) {
            check.due("segment(" + seg + ")", g.segment(seg), -1);
        }
    }

    private static void gates(RingGates g) {
        check.due("gate 0", g.gate(Scene.GATED, 0), 5);
        check.due("gate 1", g.gate(Scene.GATED, 1), 2);
        int[] indices = {Integer.MIN_VALUE, -1, 2, 3, 4, Integer.MAX_VALUE};
        for (int index : indices) {
            check.due("gate " + index, g.gate(Scene.GATED, index), -1);
        }
        check.due("gate of a segment without gates", g.gate(Scene.DATA, 0), -1);
        for (int seg : NO_SLOTS) {
            check.due("gate(" + seg + ", 0)", g.gate(seg, 0), -1);
        }
    }

    private static void everyShape() {
        RingGates g = new RingGates(8, 32, 4);
        for (int length = 1; length <= 32; length++) {
            for (int gates = 0; gates <= 4; gates++) {
                int seg = length % 8;
                int flags = (length + gates) % 8;
                g.defineSegment(seg, length, flags, Check.brackets(gates, gates + 1, 7));
                for (int index = 0; index < gates; index++) {
                    g.addGate(seg, index);
                }
                check.due("length " + length + " with gates", g.segment(seg), length | flags << 8
                    | gates << 12 | gates + 1 << 16 | 7 << 20 | Math.min(gates, length) << 24);
            }
        }
    }

    private static void beyondTheLength() {
        RingGates g = new RingGates(8, 32, 4);
        g.defineSegment(2, 32, 7, 0);
        g.defineSegment(1, 9, 7, 0);
        for (int off = 0; off < 32; off++) {
            g.poke(2, off, -off - 1);
            g.poke(1, off, off + 1);
        }
        for (int off = -40; off < 80; off++) {
            check.due("peek(1, " + off + ")", g.peek(1, off), off >= 0 && off < 9 ? off + 1 : 0);
        }
    }
}

/** Words, packed forms and small programs for the tests, and numbers at the edges. */
final class Code {
    /** The slots of the objects that ready makes; the slots 0 and 3 are undefined in them. */
    static final int DATA = 1;
    static final int CODE = 2;
    static final int FREE = 3;

    static final int[] INTS = {0, 1, -1, 255, 256, 65535, 65536, -65536, Integer.MAX_VALUE, Integer.MIN_VALUE};

    private Code() {
    }

    static int op(int op, int x, int y) {
        return op << 16 | x << 8 | y;
    }

    static int op(int op) {
        return op << 16;
    }

    static int immediate(int op, int v) {
        return op << 16 | v;
    }

    static int brackets(int r1, int r2, int r3) {
        return r1 | r2 << 4 | r3 << 8;
    }

    static int pointer(int seg, int off, int ring) {
        return seg << 16 | off << 8 | ring;
    }

    static int ic(int seg, int off) {
        return seg * 256 + off;
    }

    static void put(RingGates g, int seg, int from, int... words) {
        for (int i = 0; i < words.length; i++) {
            if (!g.poke(seg, from + i, words[i])) {
                throw new IllegalStateException("the test pokes outside of segment " + seg);
            }
        }
    }

    /** A process before the first of these words, in a segment that every ring executes, with data for every ring. */
    static RingGates ready(int ring, int... words) {
        return readyWithDepth(4, ring, words);
    }

    static RingGates readyWithDepth(int depth, int ring, int... words) {
        RingGates g = new RingGates(4, 16, depth);
        g.defineSegment(DATA, 16, RingGates.FLAG_READ | RingGates.FLAG_WRITE, brackets(7, 7, 7));
        g.defineSegment(CODE, 16, RingGates.FLAG_EXEC, brackets(0, 7, 7));
        put(g, CODE, 0, words);
        g.start(CODE, 0, ring);
        return g;
    }

    /** A process with this A, before the first of these words. */
    static RingGates withA(int value, int... words) {
        RingGates g = ready(0, op(RingGates.OP_PTR, DATA, 0), op(RingGates.OP_LD));
        put(g, CODE, 2, words);
        g.poke(DATA, 0, value);
        g.run(2);
        return g;
    }

    /** Numbers below the least and above the greatest: the nearest, some that a mask would let in, the farthest. */
    static int[] outside(int least, int greatest) {
        return new int[] {least - 1, least - 2, least - 16, least - 256, Integer.MIN_VALUE, Integer.MIN_VALUE + least,
            greatest + 1, greatest + 2, greatest + 16, greatest + 256, greatest + 65536, Integer.MAX_VALUE};
    }
}

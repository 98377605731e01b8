import java.util.List;

/** Promise 4: poke. */
public final class Promise04PokeTest {
    private static final Check check = new Check("promise 4");
    private static final int[] VALUES = {0, 1, -1, 65536, Integer.MIN_VALUE, Integer.MAX_VALUE};

    public static void main(String[] args) {
        for (int status : Scene.STATUSES) {
            refusals(status);
            for (int value : VALUES) {
                changesOneWordAlone(status, value);
            }
        }
        withoutRingTests();
        everyWord();
        check.end();
    }

    private static void refusals(int status) {
        int[][] wrong = {
            {-1, 0}, {4, 0}, {8, 0}, {Integer.MIN_VALUE, 0}, {Integer.MAX_VALUE, 0}, {Scene.UNDEFINED, 0},
            {Scene.GATED, -1}, {Scene.GATED, 12}, {Scene.GATED, 32}, {Scene.GATED, Integer.MIN_VALUE},
            {Scene.GATED, Integer.MAX_VALUE}, {Scene.DATA, 16}, {Scene.DATA, -16}};
        RingGates g = Scene.inStatus(status);
        List<String> before = Check.fullView(g);
        for (int[] w : wrong) {
            String what = "poke " + w[0] + " " + w[1] + " in status " + status;
            check.no(what, g.poke(w[0], w[1], 9));
            check.same(what, Check.fullView(g), before);
        }
    }

    private static void changesOneWordAlone(int status, int value) {
        for (int seg = 0; seg < 3; seg++) {
            int last = (g(status).segment(seg) & 255) - 1;
            for (int off = 0; off <= last; off += last) {
                String what = "poke " + seg + " " + off + " " + value + " in status " + status;
                RingGates g = g(status);
                List<String> want = Check.fullView(g);
                want.replaceAll(oneWord(seg, off, value));
                check.yes(what, g.poke(seg, off, value));
                check.same(what, Check.fullView(g), want);
            }
        }
    }

    private static java.util.function.UnaryOperator<String> oneWord(int seg, int off, int value) {
        String head = "peek(" + seg + "," + off + ")=";
        return line -> line.startsWith(head) ? head + value : line;
    }

    private static RingGates g(int status) {
        return Scene.inStatus(status);
    }

    private static void withoutRingTests() {
        RingGates g = new RingGates(2, 8, 4);
        g.defineSegment(0, 8, 0, 0);
        g.start(0, 0, 7);
        check.yes("poke with no flag at ring 7", g.poke(0, 7, 123));
        check.due("the word", g.peek(0, 7), 123);
    }

    private static void everyWord() {
        RingGates g = new RingGates(8, 32, 4);
        for (int seg = 0; seg < 8; seg++) {
            g.defineSegment(seg, 32, 0, 0);
        }
        for (int i = 0; i < 256; i++) {
            check.yes("poke number " + i, g.poke(i / 32, i % 32, 5000 - i));
        }
        for (int i = 0; i < 256; i++) {
            check.due("word number " + i, g.peek(i / 32, i % 32), 5000 - i);
        }
    }
}

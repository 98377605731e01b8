/** Long runs of mixed calls, held against the model after every call. The sequence is fixed. */
public final class LongRunsTest {
    private static final Check check = new Check("long runs");
    private static final int OBJECTS = 400;
    private static final int CALLS = 120;

    private static long seed = 1;
    private static final int[] faults = new int[11];
    private static int halts = 0;
    private static int deepest = 0;

    public static void main(String[] args) {
        for (int object = 0; object < OBJECTS && check.wrongSoFar() == 0; object++) {
            seed = 1000003L * object + 17;
            oneObject(object);
        }
        for (int code = 1; code <= 10; code++) {
            check.yes("the runs meet fault " + code, faults[code] > 0);
        }
        check.yes("the runs meet halts", halts > 0);
        check.yes("the runs meet nested calls", deepest > 2);
        check.end();
    }

    /** A whole number in 0..bound-1, the next one of a fixed sequence. */
    private static int pick(int bound) {
        seed = seed * 6364136223846793005L + 1442695040888963407L;
        return (int) ((seed >>> 33) % bound);
    }

    private static int around(int greatest) {
        return pick(12) == 0 ? pick(greatest + 6) - 3 : pick(greatest);
    }

    private static void oneObject(int object) {
        int segments = pick(12) - 1;
        int segWords = pick(40);
        int depth = pick(20);
        RingGates g = new RingGates(segments, segWords, depth);
        Model m = new Model(segments, segWords, depth);
        int slots = Math.max(2, Math.min(8, segments));
        int words = Math.max(8, Math.min(32, segWords));
        for (int seg = 0; seg < slots; seg++) {
            define(g, m, "object " + object, seg, words);
        }
        for (int call = 0; call < CALLS && check.wrongSoFar() == 0; call++) {
            String what = "object " + object + ", call " + call;
            oneCall(g, m, what, slots, words);
            check.same(what, View.of(g), m.view());
        }
    }

    private static void oneCall(RingGates g, Model m, String what, int slots, int words) {
        int seg = around(slots);
        int off = around(words);
        switch (pick(12)) {
            case 0 -> define(g, m, what, seg, words);
            case 1 -> check.due(what + " addGate", g.addGate(seg, off) ? 1 : 0, m.addGate(seg, off) ? 1 : 0);
            case 2 -> {
                int word = instruction(slots, words);
                check.due(what + " poke", g.poke(seg, off, word) ? 1 : 0, m.poke(seg, off, word) ? 1 : 0);
            }
            case 3 -> {
                int ring = around(8);
                int kind = around(4);
                check.due(what + " access", g.access(seg, off, ring, kind) ? 1 : 0,
                    m.access(seg, off, ring, kind) ? 1 : 0);
            }
            case 4, 5, 6 -> {
                int ring = around(8);
                check.due(what + " start", g.start(seg, off, ring) ? 1 : 0, m.start(seg, off, ring) ? 1 : 0);
            }
            default -> run(g, m, what);
        }
    }

    private static void run(RingGates g, Model m, String what) {
        int steps = pick(9) == 0 ? pick(400) - 20 : 1 + pick(4);
        boolean ready = g.state(RingGates.S_STATUS) == RingGates.STATUS_READY;
        check.due(what + " run(" + steps + ")", g.run(steps), m.run(steps));
        if (ready) {
            faults[g.state(RingGates.S_FAULT)]++;
            halts += g.state(RingGates.S_STATUS) == RingGates.STATUS_HALTED ? 1 : 0;
            deepest = Math.max(deepest, g.state(RingGates.S_DEPTH));
        }
    }

    /** Most segments can be executed over wide brackets, so that runs get far. */
    private static void define(RingGates g, Model m, String what, int seg, int words) {
        int length = pick(4) == 0 ? around(words + 1) : words;
        int flags = pick(3) == 0 ? around(8) : 7;
        int r1 = pick(4);
        int r2 = r1 + pick(4);
        int r3 = r2 + pick(3);
        int brackets = pick(15) == 0 ? pick(5000) - 100 : Code.brackets(r1, r2, r3);
        check.due(what + " define", g.defineSegment(seg, length, flags, brackets) ? 1 : 0,
            m.defineSegment(seg, length, flags, brackets) ? 1 : 0);
        for (int off = 0; off < length; off++) {
            int word = instruction(8, words);
            check.due(what + " poke", g.poke(seg, off, word) ? 1 : 0, m.poke(seg, off, word) ? 1 : 0);
        }
        for (int gate = pick(6); gate > 0; gate--) {
            int off = around(words);
            check.due(what + " addGate", g.addGate(seg, off) ? 1 : 0, m.addGate(seg, off) ? 1 : 0);
        }
    }

    private static int instruction(int slots, int words) {
        int op = pick(40) == 0 ? pick(256) : 1 + pick(15);
        if (pick(4) == 0) {
            op = RingGates.OP_CALL;
        }
        int high = pick(5) == 0 ? pick(256) : 0;
        int x = pick(30) == 0 ? pick(256) : pick(slots);
        int y = pick(30) == 0 ? pick(256) : pick(words);
        return high << 24 | Code.op(op, x, y);
    }
}

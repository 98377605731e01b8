import java.util.ArrayList;
import java.util.List;

/** What the tests of the project share: counting wrong answers, building words, and taking a full view. */
final class Check {
    private static final int MOST_SHOWN = 20;

    private final String title;
    private int asked = 0;
    private int wrong = 0;

    Check(String title) {
        this.title = title;
    }

    void due(String what, long got, long want) {
        asked++;
        if (got != want) {
            wrong++;
            if (wrong <= MOST_SHOWN) {
                System.out.println(title + ": " + what + " answered " + got + ", due is " + want);
            }
        }
    }

    void yes(String what, boolean got) {
        due(what, got ? 1 : 0, 1);
    }

    void no(String what, boolean got) {
        due(what, got ? 1 : 0, 0);
    }

    /** Tells the places where two views differ. */
    void same(String what, List<String> got, List<String> want) {
        asked++;
        if (got.equals(want)) {
            return;
        }
        wrong++;
        if (wrong > MOST_SHOWN) {
            return;
        }
        for (int i = 0; i < Math.max(got.size(), want.size()); i++) {
            String g = i < got.size() ? got.get(i) : "nothing";
            String w = i < want.size() ? want.get(i) : "nothing";
            if (!g.equals(w)) {
                System.out.println(title + ": " + what + " shows " + g + ", due is " + w);
            }
        }
    }

    int wrongSoFar() {
        return wrong;
    }

    /** Checks a row of states: status, fault, ring, packed IC, A, count. */
    void process(String what, RingGates g, int... wanted) {
        int[] selectors = {RingGates.S_STATUS, RingGates.S_FAULT, RingGates.S_RING,
            RingGates.S_IC, RingGates.S_ACC, RingGates.S_COUNT};
        String[] names = {"status", "fault", "ring", "IC", "A", "count"};
        for (int i = 0; i < wanted.length; i++) {
            due(what + ", " + names[i], g.state(selectors[i]), wanted[i]);
        }
    }

    /** The next step must fault with this code and change nothing but the status and the code. */
    void faults(RingGates g, String what, int code) {
        List<String> want = fullView(g);
        want.set(0, "state(0)=" + RingGates.STATUS_FAULTED);
        want.set(1, "state(1)=" + code);
        due(what, g.run(1), 0);
        same(what, fullView(g), want);
    }

    void end() {
        System.out.println(title + ": " + asked + " checks, " + wrong + " wrong");
        if (wrong != 0 || asked == 0) {
            System.exit(1);
        }
    }

    static int word(int op, int x, int y) {
        return op << 16 | x << 8 | y;
    }

    static int word(int op) {
        return op << 16;
    }

    static int immediate(int op, int v) {
        return op << 16 | v;
    }

    static int brackets(int r1, int r2, int r3) {
        return r1 | r2 << 4 | r3 << 8;
    }

    static int pointer(int seg, int off, int ring) {
        return seg << 16 | off << 8 | ring;
    }

    static int ic(int seg, int off) {
        return seg * 256 + off;
    }

    static void program(RingGates g, int seg, int from, int... words) {
        for (int i = 0; i < words.length; i++) {
            if (!g.poke(seg, from + i, words[i])) {
                throw new IllegalStateException("the test pokes outside of segment " + seg);
            }
        }
    }

    /** Everything the process lets be seen. */
    static List<String> processView(RingGates g) {
        List<String> view = new ArrayList<>();
        for (int which = 0; which <= 8; which++) {
            view.add("state(" + which + ")=" + g.state(which));
        }
        for (int level = 0; level <= 16; level++) {
            for (int field = 0; field <= 5; field++) {
                view.add("frame(" + level + "," + field + ")=" + g.frame(level, field));
            }
        }
        for (int ring = 0; ring <= 7; ring++) {
            view.add("stackHeight(" + ring + ")=" + g.stackHeight(ring));
            for (int index = 0; index <= 16; index++) {
                view.add("stackValue(" + ring + "," + index + ")=" + g.stackValue(ring, index));
            }
        }
        return view;
    }

    /** Everything a slot lets be seen. */
    static List<String> slotView(RingGates g, int seg) {
        List<String> view = new ArrayList<>();
        view.add("segment(" + seg + ")=" + g.segment(seg));
        for (int index = 0; index <= 4; index++) {
            view.add("gate(" + seg + "," + index + ")=" + g.gate(seg, index));
        }
        for (int off = 0; off <= 32; off++) {
            view.add("peek(" + seg + "," + off + ")=" + g.peek(seg, off));
        }
        return view;
    }

    static List<String> slotsView(RingGates g) {
        List<String> view = new ArrayList<>();
        for (int seg = 0; seg <= 8; seg++) {
            view.addAll(slotView(g, seg));
        }
        return view;
    }

    static List<String> fullView(RingGates g) {
        List<String> view = processView(g);
        view.addAll(slotsView(g));
        return view;
    }
}

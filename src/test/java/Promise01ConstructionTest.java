import java.util.List;

/** Promise 1: construction and fresh state. */
public final class Promise01ConstructionTest {
    private static final Check check = new Check("promise 1");
    private static final int[] EXTREMES = {Integer.MIN_VALUE, -1, 0, 1, 100, Integer.MAX_VALUE};

    public static void main(String[] args) {
        for (int asked = -3; asked <= 12; asked++) {
            slotsAre(asked, Math.min(8, Math.max(2, asked)));
        }
        for (int asked = -3; asked <= 40; asked++) {
            wordsAre(asked, Math.min(32, Math.max(8, asked)));
        }
        for (int asked = -3; asked <= 20; asked++) {
            depthIs(asked, Math.min(16, Math.max(4, asked)));
        }
        for (int asked : EXTREMES) {
            slotsAre(asked, asked < 2 ? 2 : 8);
            wordsAre(asked, asked < 8 ? 8 : 32);
            depthIs(asked, asked < 4 ? 4 : 16);
        }
        freshState(new RingGates(4, 16, 8));
        freshState(new RingGates(Integer.MIN_VALUE, 0, -1));
        freshState(new RingGates(Integer.MAX_VALUE, 100, 17));
        objectsAreApart();
        check.end();
    }

    private static void slotsAre(int asked, int due) {
        RingGates g = new RingGates(asked, 16, 8);
        for (int seg = 0; seg < 12; seg++) {
            String what = "segments " + asked + ", slot " + seg;
            check.due(what + " define", g.defineSegment(seg, 1, 7, 0) ? 1 : 0, seg < due ? 1 : 0);
            check.due(what + " start", g.start(seg, 0, 0) ? 1 : 0, seg < due ? 1 : 0);
        }
    }

    private static void wordsAre(int asked, int due) {
        RingGates g = new RingGates(4, asked, 8);
        for (int length = 1; length < 40; length++) {
            String what = "segWords " + asked + ", length " + length;
            check.due(what + " define", g.defineSegment(0, length, 7, 0) ? 1 : 0, length <= due ? 1 : 0);
            check.due(what + " start", g.start(0, length, 0) ? 1 : 0, length < due ? 1 : 0);
        }
    }

    private static void depthIs(int asked, int due) {
        RingGates g = new RingGates(2, 8, asked);
        for (int ring = 0; ring <= 7; ring++) {
            g.defineSegment(0, 8, RingGates.FLAG_EXEC, Check.brackets(ring, ring, ring));
            Check.program(g, 0, 0, Check.word(RingGates.OP_PUSH), Check.word(RingGates.OP_JMP, 0, 0));
            g.start(0, 0, ring);
            g.run(100);
            check.due("depth " + asked + ", height of ring " + ring, g.stackHeight(ring), due);
        }
        Check.program(g, 0, 0, Check.word(RingGates.OP_CALL, 0, 0));
        g.start(0, 0, 7);
        check.due("depth " + asked + ", calls", g.run(100), due);
        check.due("depth " + asked + ", frames", g.state(RingGates.S_DEPTH), due);
    }

    private static void freshState(RingGates g) {
        for (int which = 0; which <= 8; which++) {
            check.due("fresh state(" + which + ")", g.state(which), 0);
        }
        check.due("fresh frame", g.frame(0, 0), -1);
        for (int ring = 0; ring <= 7; ring++) {
            check.due("fresh height of ring " + ring, g.stackHeight(ring), 0);
        }
        for (int seg = 0; seg < 8; seg++) {
            check.due("fresh segment(" + seg + ")", g.segment(seg), -1);
            check.no("fresh poke", g.poke(seg, 0, 1));
            check.no("fresh addGate", g.addGate(seg, 0));
        }
        check.due("run on a fresh object", g.run(5), 0);
        check.due("status after that", g.state(RingGates.S_STATUS), RingGates.STATUS_IDLE);
    }

    private static void objectsAreApart() {
        RingGates one = new RingGates(4, 16, 8);
        RingGates other = new RingGates(4, 16, 8);
        List<String> before = Check.fullView(other);
        one.defineSegment(0, 16, 7, 0);
        one.addGate(0, 3);
        Check.program(one, 0, 0, Check.word(RingGates.OP_PUSH), Check.word(RingGates.OP_CALL, 0, 0));
        one.start(0, 0, 0);
        one.run(3);
        check.same("another object", Check.fullView(other), before);
    }
}

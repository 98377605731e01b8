import java.util.List;

/** Promise 8: access, over every flag, bracket, ring and kind. */
public final class Promise08AccessTest {
    private static final Check check = new Check("promise 8");
    private static final int LENGTH = 6;
    private static final int GATE = 4;
    private static final int PLAIN = 5;

    public static void main(String[] args) {
        for (int r1 = 0; r1 <= 7; r1++) {
            for (int r2 = r1; r2 <= 7; r2++) {
                for (int r3 = r2; r3 <= 7; r3++) {
                    for (int flags = 0; flags <= 7; flags++) {
                        everyRing(r1, r2, r3, flags);
                    }
                }
            }
        }
        wrongInputs();
        everyGate();
        for (int status : Scene.STATUSES) {
            apartFromTheProcess(status);
        }
        check.end();
    }

    private static void everyRing(int r1, int r2, int r3, int flags) {
        RingGates g = new RingGates(2, 8, 4);
        g.defineSegment(1, LENGTH, flags, Check.brackets(r1, r2, r3));
        g.addGate(1, GATE);
        boolean read = (flags & 1) != 0;
        boolean write = (flags & 2) != 0;
        boolean exec = (flags & 4) != 0;
        for (int e = 0; e <= 7; e++) {
            String what = "flags " + flags + " brackets " + r1 + r2 + r3 + " ring " + e;
            expect(g, what, GATE, e, new boolean[] {read && e <= r2, write && e <= r1,
                exec && r1 <= e && e <= r2, exec && e <= r3});
            expect(g, what, PLAIN, e, new boolean[] {read && e <= r2, write && e <= r1,
                exec && r1 <= e && e <= r2, exec && e <= r2});
        }
    }

    private static void expect(RingGates g, String what, int off, int e, boolean[] due) {
        for (int kind = 0; kind <= 3; kind++) {
            check.due(what + " kind " + kind + " off " + off, g.access(1, off, e, kind) ? 1 : 0, due[kind] ? 1 : 0);
        }
    }

    private static void wrongInputs() {
        RingGates g = new RingGates(4, 16, 4);
        g.defineSegment(0, LENGTH, 7, Check.brackets(0, 7, 7));
        g.addGate(0, 0);
        int[] slots = {Integer.MIN_VALUE, -1, 1, 3, 4, 8, Integer.MAX_VALUE};
        int[] offs = {Integer.MIN_VALUE, -1, LENGTH, 7, 16, 32, Integer.MAX_VALUE};
        int[] rings = {Integer.MIN_VALUE, -1, 8, 9, Integer.MAX_VALUE};
        int[] kinds = {Integer.MIN_VALUE, -1, 4, 5, Integer.MAX_VALUE};
        for (int kind = 0; kind <= 3; kind++) {
            check.yes("all right, kind " + kind, g.access(0, 0, 0, kind));
            for (int seg : slots) {
                check.no("slot " + seg, g.access(seg, 0, 0, kind));
            }
            for (int off : offs) {
                check.no("offset " + off, g.access(0, off, 0, kind));
            }
            for (int ring : rings) {
                check.no("ring " + ring, g.access(0, 0, ring, kind));
            }
        }
        for (int kind : kinds) {
            check.no("kind " + kind, g.access(0, 0, 0, kind));
        }
    }

    private static void everyGate() {
        RingGates g = new RingGates(3, 32, 4);
        for (int seg = 0; seg < 3; seg++) {
            g.defineSegment(seg, 32, 4, Check.brackets(0, 1, 7));
        }
        int[] gates = {31, 0, 17, 8};
        for (int off : gates) {
            g.addGate(1, off);
        }
        for (int off = 0; off < 32; off++) {
            boolean due = off == 31 || off == 0 || off == 17 || off == 8;
            check.due("a call of " + off, g.access(1, off, 7, RingGates.KIND_CALL) ? 1 : 0, due ? 1 : 0);
            check.no("a call of the slot before", g.access(0, off, 7, RingGates.KIND_CALL));
            check.no("a call of the slot behind", g.access(2, off, 7, RingGates.KIND_CALL));
        }
    }

    private static void apartFromTheProcess(int status) {
        RingGates g = Scene.inStatus(status);
        RingGates idle = Scene.inStatus(RingGates.STATUS_IDLE);
        // The scenes differ in one instruction word, which access never looks at.
        List<String> before = Check.fullView(g);
        for (int seg = -1; seg <= 4; seg++) {
            for (int off = -1; off <= 16; off++) {
                for (int ring = -1; ring <= 8; ring++) {
                    for (int kind = -1; kind <= 4; kind++) {
                        String what = "access " + seg + " " + off + " " + ring + " " + kind + " in status " + status;
                        int want = idle.access(seg, off, ring, kind) ? 1 : 0;
                        check.due(what, g.access(seg, off, ring, kind) ? 1 : 0, want);
                    }
                }
            }
        }
        check.same("access in status " + status, Check.fullView(g), before);
    }
}

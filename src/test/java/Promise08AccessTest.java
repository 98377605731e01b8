import java.util.BitSet;

/** Promise 8: access, and the bracket rule over every flag, bracket, ring and kind. */
public final class Promise08AccessTest {
    private static final Check check = new Check("promise 8");
    private static final int LENGTH = 6;
    private static final int GATE = 5;
    private static final int PLAIN = 4;

    /** Whether the bracket rule is due to hold at ring e, at the gate or beside it. */
    private interface Rule {
        boolean holds(int flags, int r1, int r2, int r3, int e, boolean atGate);
    }

    public static void main(String[] args) {
        check.sentence("`KIND_READ`: `FLAG_READ` set and e <= r2.", () -> everySegment(RingGates.KIND_READ,
            (flags, r1, r2, r3, e, atGate) -> (flags & 1) != 0 && e <= r2));
        check.sentence("`KIND_WRITE`: `FLAG_WRITE` set and e <= r1.", () -> everySegment(RingGates.KIND_WRITE,
            (flags, r1, r2, r3, e, atGate) -> (flags & 2) != 0 && e <= r1));
        check.sentence("`KIND_EXEC`: `FLAG_EXEC` set and r1 <= e <= r2.", () -> everySegment(RingGates.KIND_EXEC,
            (flags, r1, r2, r3, e, atGate) -> (flags & 4) != 0 && r1 <= e && e <= r2));
        check.sentence("`KIND_CALL`: `FLAG_EXEC` set and e <= r3 and (e <= r2 or off is a gate of s).",
            () -> everySegment(RingGates.KIND_CALL,
                (flags, r1, r2, r3, e, atGate) -> (flags & 4) != 0 && e <= r3 && (e <= r2 || atGate)));
        check.sentence("off is a gate of s", Promise08AccessTest::everyGate);
        check.sentence("ring is not in 0..7;", Promise08AccessTest::noRing);
        check.sentence("kind is not one of `KIND_READ`, `KIND_WRITE`, `KIND_EXEC`, `KIND_CALL`;",
            Promise08AccessTest::noKind);
        check.sentence("seg is not a defined slot;", Promise08AccessTest::noDefinedSlot);
        check.sentence("off is not in 0..L-1.", Promise08AccessTest::outsideTheLength);
        check.sentence("It changes nothing", Promise08AccessTest::changesNothing);
        check.sentence("and does not depend on process state.", Promise08AccessTest::apartFromTheProcess);
        check.end();
    }

    private static void everySegment(int kind, Rule rule) {
        for (int r1 = 0; r1 <= 7; r1++) {
            for (int r2 = r1; r2 <= 7; r2++) {
                for (int r3 = r2; r3 <= 7; r3++) {
                    for (int flags = 0; flags <= 7; flags++) {
                        everyRing(kind, rule, flags, r1, r2, r3);
                    }
                }
            }
        }
    }

    private static void everyRing(int kind, Rule rule, int flags, int r1, int r2, int r3) {
        RingGates g = new RingGates(2, 8, 4);
        g.defineSegment(1, LENGTH, flags, Code.brackets(r1, r2, r3));
        g.addGate(1, GATE);
        for (int e = 0; e <= 7; e++) {
            String what = "flags " + flags + " brackets " + r1 + r2 + r3 + " ring " + e + " kind " + kind;
            check.is(what, g.access(1, PLAIN, e, kind), rule.holds(flags, r1, r2, r3, e, false));
            check.is(what + " at a gate", g.access(1, GATE, e, kind), rule.holds(flags, r1, r2, r3, e, true));
        }
    }

    private static void everyGate() {
        int[] gates = {31, 0, 17, 8};
        for (int count = 0; count <= 4; count++) {
            RingGates g = new RingGates(3, 32, 4);
            for (int seg = 0; seg < 3; seg++) {
                g.defineSegment(seg, 32, 4, Code.brackets(0, 1, 7));
            }
            for (int index = 0; index < count; index++) {
                g.addGate(1, gates[index]);
            }
            for (int off = 0; off < 32; off++) {
                boolean due = false;
                for (int index = 0; index < count; index++) {
                    due |= gates[index] == off;
                }
                check.is("a call of " + off, g.access(1, off, 7, RingGates.KIND_CALL), due);
                check.no("a call of the slot before", g.access(0, off, 7, RingGates.KIND_CALL));
                check.no("a call of the slot behind", g.access(2, off, 7, RingGates.KIND_CALL));
            }
        }
    }

    /** The last of the slots is undefined; every access of the others is open to ring 0, and reads and calls to all. */
    private static RingGates open(int segments, int length) {
        RingGates g = new RingGates(segments, 32, 4);
        for (int seg = 0; seg < segments - 1; seg++) {
            g.defineSegment(seg, length, 7, Code.brackets(0, 7, 7));
            g.addGate(seg, 0);
        }
        return g;
    }

    private static void noRing() {
        RingGates g = open(4, LENGTH);
        for (int kind = 0; kind <= 3; kind++) {
            check.yes("ring 0, kind " + kind, g.access(0, 0, 0, kind));
            check.is("ring 7, kind " + kind, g.access(0, 0, 7, kind), kind != RingGates.KIND_WRITE);
            for (int ring : Code.outside(0, 7)) {
                check.no("ring " + ring + ", kind " + kind, g.access(0, 0, ring, kind));
            }
        }
        g.defineSegment(0, LENGTH, 7, Code.brackets(7, 7, 7));
        check.yes("a write at ring 7", g.access(0, 0, 7, RingGates.KIND_WRITE));
        check.no("a write at ring 8", g.access(0, 0, 8, RingGates.KIND_WRITE));
    }

    private static void noKind() {
        RingGates g = open(4, LENGTH);
        check.yes("the least kind", g.access(0, 0, 0, RingGates.KIND_READ));
        check.yes("the greatest kind", g.access(0, 0, 0, RingGates.KIND_CALL));
        for (int kind : Code.outside(0, 3)) {
            check.no("kind " + kind, g.access(0, 0, 0, kind));
        }
    }

    private static void noDefinedSlot() {
        for (int segments = 2; segments <= 8; segments++) {
            RingGates g = open(segments, 32);
            for (int kind = 0; kind <= 3; kind++) {
                check.yes("the first slot", g.access(0, 0, 0, kind));
                check.yes("the last defined slot", g.access(segments - 2, 0, 0, kind));
                check.no("an undefined slot", g.access(segments - 1, 0, 0, kind));
                for (int seg : Code.outside(0, segments - 1)) {
                    check.no("slot " + seg, g.access(seg, 0, 0, kind));
                }
            }
        }
    }

    private static void outsideTheLength() {
        for (int length = 1; length <= 32; length++) {
            RingGates g = open(4, length);
            for (int kind = 0; kind <= 3; kind++) {
                check.yes("the first word", g.access(1, 0, 0, kind));
                check.yes("the last word", g.access(1, length - 1, 0, kind));
                for (int off : Code.outside(0, length - 1)) {
                    check.no("offset " + off + " with length " + length, g.access(1, off, 0, kind));
                }
            }
        }
    }

    private static BitSet accesses(RingGates g) {
        BitSet answers = new BitSet();
        int number = 0;
        for (int seg = -1; seg <= 8; seg++) {
            for (int off = -1; off <= 16; off++) {
                for (int ring = -1; ring <= 8; ring++) {
                    for (int kind = -1; kind <= 4; kind++) {
                        answers.set(number++, g.access(seg, off, ring, kind));
                    }
                }
            }
        }
        return answers;
    }

    private static void changesNothing() {
        for (int status : Scene.STATUSES) {
            RingGates g = Scene.inStatus(status);
            check.changesNothing(g, "access in status " + status, () -> accesses(g));
        }
    }

    private static void apartFromTheProcess() {
        BitSet due = accesses(Scene.inStatus(RingGates.STATUS_IDLE));
        for (int status : Scene.STATUSES) {
            check.yes("all accesses in status " + status, accesses(Scene.inStatus(status)).equals(due));
        }
        for (int ring = 0; ring <= 7; ring++) {
            RingGates g = Scene.inStatus(RingGates.STATUS_READY);
            g.start(Scene.CODE, 0, ring);
            check.yes("all accesses with R = " + ring, accesses(g).equals(due));
        }
    }
}

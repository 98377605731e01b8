import java.util.ArrayDeque;
import java.util.ArrayList;
import java.util.Deque;
import java.util.Iterator;
import java.util.List;

/** The document once more, as objects and lists, to hold the program against on long runs. */
final class Model {
    private record Pointer(int seg, int off, int ring) {
        int packed() {
            return seg << 16 | off << 8 | ring;
        }

        Pointer atLeast(int least) {
            return new Pointer(seg, off, Math.max(ring, least));
        }
    }

    private record Frame(int returnSeg, int returnOff, int callerRing, int floor, Pointer p, Pointer q, int ring) {
    }

    private static final class Segment {
        final int[] words;
        final int flags;
        final int r1;
        final int r2;
        final int r3;
        final List<Integer> gates = new ArrayList<>();

        Segment(int length, int flags, int brackets) {
            words = new int[length];
            this.flags = flags;
            r1 = brackets % 16;
            r2 = brackets / 16 % 16;
            r3 = brackets / 256;
        }

        boolean can(int flag) {
            return (flags & flag) == flag;
        }

        boolean rule(int kind, int e, int off) {
            return switch (kind) {
                case 0 -> can(1) && e <= r2;
                case 1 -> can(2) && e <= r1;
                case 2 -> can(4) && r1 <= e && e <= r2;
                case 3 -> can(4) && e <= r3 && (e <= r2 || gates.contains(off));
                default -> false;
            };
        }
    }

    private static final class Fault extends RuntimeException {
        private static final long serialVersionUID = 1L;
        final int code;

        Fault(int code) {
            super(null, null, false, false);
            this.code = code;
        }
    }

    private final Segment[] slots;
    private final int segWords;
    private final int depth;
    private int status = 0;
    private int fault = 0;
    private int ring = 0;
    private int seg = 0;
    private int off = 0;
    private int acc = 0;
    private Pointer p = new Pointer(0, 0, 0);
    private Pointer q = p;
    private int count = 0;
    private final Deque<Frame> frames = new ArrayDeque<>();
    private final List<Deque<Integer>> stacks = new ArrayList<>();

    Model(int segments, int segWords, int depth) {
        slots = new Segment[Math.max(2, Math.min(8, segments))];
        this.segWords = Math.max(8, Math.min(32, segWords));
        this.depth = Math.max(4, Math.min(16, depth));
        for (int k = 0; k < 8; k++) {
            stacks.add(new ArrayDeque<>());
        }
    }

    private Segment slot(int number) {
        return number >= 0 && number < slots.length ? slots[number] : null;
    }

    private Segment slotWith(int number, int offset) {
        Segment s = slot(number);
        return s != null && offset >= 0 && offset < s.words.length ? s : null;
    }

    boolean defineSegment(int number, int length, int flags, int brackets) {
        boolean sizes = number >= 0 && number < slots.length && length >= 1 && length <= segWords;
        if (!sizes || flags < 0 || flags > 7 || brackets < 0 || brackets > 4095) {
            return false;
        }
        Segment s = new Segment(length, flags, brackets);
        if (s.r1 > s.r2 || s.r2 > s.r3 || s.r3 > 7) {
            return false;
        }
        slots[number] = s;
        return true;
    }

    boolean addGate(int number, int offset) {
        Segment s = slotWith(number, offset);
        if (s == null || s.gates.size() == 4 || s.gates.contains(offset)) {
            return false;
        }
        return s.gates.add(offset);
    }

    boolean poke(int number, int offset, int value) {
        Segment s = slotWith(number, offset);
        if (s == null) {
            return false;
        }
        s.words[offset] = value;
        return true;
    }

    boolean access(int number, int offset, int e, int kind) {
        Segment s = slotWith(number, offset);
        return s != null && e >= 0 && e <= 7 && s.rule(kind, e, offset);
    }

    boolean start(int number, int offset, int atRing) {
        boolean place = number >= 0 && number < slots.length && offset >= 0 && offset < segWords;
        if (!place || atRing < 0 || atRing > 7) {
            return false;
        }
        status = 1;
        fault = 0;
        ring = atRing;
        seg = number;
        off = offset;
        acc = 0;
        p = new Pointer(0, 0, atRing);
        q = p;
        count = 0;
        frames.clear();
        stacks.forEach(Deque::clear);
        return true;
    }

    int run(int steps) {
        int completed = 0;
        for (int taken = 0; taken < Math.min(steps, 256) && status == 1; taken++) {
            try {
                step();
                count++;
                completed++;
            } catch (Fault f) {
                status = 3;
                fault = f.code;
            }
        }
        return completed;
    }

    private static void unless(boolean good, int code) {
        if (!good) {
            throw new Fault(code);
        }
    }

    private Segment reach(int number, int offset) {
        unless(slot(number) != null, 1);
        unless(slotWith(number, offset) != null, 2);
        return slot(number);
    }

    private void step() {
        Segment s = reach(seg, off);
        unless(s.rule(2, ring, off), 3);
        int w = s.words[off];
        int x = w >> 8 & 255;
        int y = w & 255;
        int v = w & 65535;
        int next = off + 1;
        switch (w >> 16 & 255) {
            case 0 -> { status = 2; next = off; }
            case 1 -> acc = v;
            case 2 -> acc += v;
            case 3 -> p = new Pointer(x, y, ring);
            case 4 -> p = new Pointer(p.seg, (p.off + y) % 256, p.ring);
            case 5 -> { Pointer kept = p; p = q; q = kept; }
            case 6 -> acc = target(0, 4).words[p.off];
            case 7 -> target(1, 5).words[p.off] = acc;
            case 8 -> { unless(stack().size() < depth, 8); stack().addLast(acc); }
            case 9 -> { unless(stack().size() > floor(), 8); acc = stack().removeLast(); }
            case 10 -> next = y;
            case 11 -> next = acc == 0 ? y : next;
            case 12 -> { call(x, y); next = off; }
            case 13 -> { giveBack(); next = off; }
            case 14 -> acc = ring;
            case 15 -> acc = p.ring;
            default -> throw new Fault(10);
        }
        off = next;
    }

    private Deque<Integer> stack() {
        return stacks.get(ring);
    }

    private int floor() {
        return frames.isEmpty() ? 0 : frames.peekLast().floor;
    }

    private Segment target(int kind, int code) {
        Segment s = reach(p.seg, p.off);
        unless(s.rule(kind, Math.max(ring, p.ring), p.off), code);
        return s;
    }

    private void call(int x, int y) {
        Segment s = reach(x, y);
        unless(s.can(4) && ring <= s.r3, 6);
        unless(ring <= s.r2 || s.gates.contains(y), 7);
        unless(frames.size() < depth, 9);
        int entered = ring < s.r1 ? s.r1 : ring > s.r2 ? s.r2 : ring;
        frames.addLast(new Frame(seg, off + 1, ring, stacks.get(entered).size(), p, q, entered));
        p = p.atLeast(ring);
        q = q.atLeast(ring);
        ring = entered;
        seg = x;
        off = y;
    }

    private void giveBack() {
        unless(!frames.isEmpty(), 9);
        Frame f = frames.removeLast();
        while (stacks.get(f.ring).size() > f.floor) {
            stacks.get(f.ring).removeLast();
        }
        ring = f.callerRing;
        seg = f.returnSeg;
        off = f.returnOff;
        p = f.p;
        q = f.q;
    }

    View view() {
        List<Integer> seen = new ArrayList<>(List.of(status, fault, ring, seg * 256 + off, acc,
            p.packed(), q.packed(), frames.size(), count));
        viewFrames(seen);
        viewStacks(seen);
        for (int number = 0; number <= 8; number++) {
            viewSlot(seen, number);
        }
        return new View(seen.stream().mapToInt(Integer::intValue).toArray());
    }

    private void viewFrames(List<Integer> seen) {
        Iterator<Frame> each = frames.iterator();
        for (int level = 0; level <= 16; level++) {
            if (each.hasNext()) {
                Frame f = each.next();
                seen.addAll(List.of(f.returnSeg * 256 + f.returnOff, f.callerRing, f.floor,
                    f.p.packed(), f.q.packed(), f.ring));
            } else {
                seen.addAll(List.of(-1, -1, -1, -1, -1, -1));
            }
        }
    }

    private void viewStacks(List<Integer> seen) {
        for (int k = 0; k <= 7; k++) {
            seen.add(stacks.get(k).size());
            Iterator<Integer> each = stacks.get(k).iterator();
            for (int index = 0; index <= 16; index++) {
                seen.add(each.hasNext() ? each.next() : 0);
            }
        }
    }

    private void viewSlot(List<Integer> seen, int number) {
        Segment s = slot(number);
        seen.add(s == null ? -1 : s.words.length + s.flags * 256 + s.r1 * 4096 + s.r2 * 65536
            + s.r3 * 1048576 + s.gates.size() * 16777216);
        for (int index = 0; index <= 4; index++) {
            seen.add(s == null || index >= s.gates.size() ? -1 : s.gates.get(index));
        }
        for (int offset = 0; offset <= 32; offset++) {
            seen.add(slotWith(number, offset) == null ? 0 : s.words[offset]);
        }
    }
}

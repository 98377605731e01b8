import java.util.ArrayList;
import java.util.HashMap;
import java.util.List;
import java.util.Map;

/** All that an object lets be seen, as named values; a view of a part has 0 in the other places. */
final class View {
    private static final List<String> NAMES = new ArrayList<>();
    private static final Map<String, Integer> PLACES = new HashMap<>();

    static {
        for (int which = 0; which <= 8; which++) {
            NAMES.add(stateName(which));
        }
        for (int level = 0; level <= 16; level++) {
            for (int field = 0; field <= 5; field++) {
                NAMES.add(frameName(level, field));
            }
        }
        for (int ring = 0; ring <= 7; ring++) {
            NAMES.add(heightName(ring));
            for (int index = 0; index <= 16; index++) {
                NAMES.add(valueName(ring, index));
            }
        }
        for (int seg = 0; seg <= 8; seg++) {
            NAMES.add(segmentName(seg));
            for (int index = 0; index <= 4; index++) {
                NAMES.add(gateName(seg, index));
            }
            for (int off = 0; off <= 32; off++) {
                NAMES.add(wordName(seg, off));
            }
        }
        for (String name : NAMES) {
            PLACES.put(name, PLACES.size());
        }
    }

    private final int[] values;

    /** The values in the order of the names. */
    View(int[] values) {
        if (values.length != NAMES.size()) {
            throw new IllegalStateException("a view has " + values.length + " values of " + NAMES.size());
        }
        this.values = values;
    }

    private View() {
        this(new int[NAMES.size()]);
    }

    static View of(RingGates g) {
        return new View().addProcess(g).addSlots(g);
    }

    static View process(RingGates g) {
        return new View().addProcess(g);
    }

    static View slots(RingGates g) {
        return new View().addSlots(g);
    }

    static View slot(RingGates g, int seg) {
        return new View().addSlot(g, seg);
    }

    private View addProcess(RingGates g) {
        int at = 0;
        for (int which = 0; which <= 8; which++) {
            values[at++] = g.state(which);
        }
        for (int level = 0; level <= 16; level++) {
            for (int field = 0; field <= 5; field++) {
                values[at++] = g.frame(level, field);
            }
        }
        for (int ring = 0; ring <= 7; ring++) {
            values[at++] = g.stackHeight(ring);
            for (int index = 0; index <= 16; index++) {
                values[at++] = g.stackValue(ring, index);
            }
        }
        return this;
    }

    private View addSlots(RingGates g) {
        for (int seg = 0; seg <= 8; seg++) {
            addSlot(g, seg);
        }
        return this;
    }

    private View addSlot(RingGates g, int seg) {
        int at = PLACES.get(segmentName(seg));
        values[at++] = g.segment(seg);
        for (int index = 0; index <= 4; index++) {
            values[at++] = g.gate(seg, index);
        }
        for (int off = 0; off <= 32; off++) {
            values[at++] = g.peek(seg, off);
        }
        return this;
    }

    private View with(String name, int value) {
        values[PLACES.get(name)] = value;
        return this;
    }

    View state(int which, int value) {
        return with(stateName(which), value);
    }

    /** IC.off greater by 1. */
    View next() {
        return state(RingGates.S_IC, values[PLACES.get(stateName(RingGates.S_IC))] + 1);
    }

    View frame(int level, int field, int value) {
        return with(frameName(level, field), value);
    }

    View height(int ring, int value) {
        return with(heightName(ring), value);
    }

    View value(int ring, int index, int value) {
        return with(valueName(ring, index), value);
    }

    View segment(int seg, int value) {
        return with(segmentName(seg), value);
    }

    View gate(int seg, int index, int value) {
        return with(gateName(seg, index), value);
    }

    View word(int seg, int off, int value) {
        return with(wordName(seg, off), value);
    }

    /** Empty if the two are the same. */
    String differenceTo(View want) {
        StringBuilder told = new StringBuilder();
        for (int at = 0; at < values.length; at++) {
            if (values[at] != want.values[at]) {
                told.append(told.isEmpty() ? "" : "; ").append(NAMES.get(at)).append(" = ").append(values[at])
                    .append(", due is ").append(want.values[at]);
            }
        }
        return told.toString();
    }

    private static String stateName(int which) {
        return "state(" + which + ")";
    }

    private static String frameName(int level, int field) {
        return "frame(" + level + ", " + field + ")";
    }

    private static String heightName(int ring) {
        return "stackHeight(" + ring + ")";
    }

    private static String valueName(int ring, int index) {
        return "stackValue(" + ring + ", " + index + ")";
    }

    private static String segmentName(int seg) {
        return "segment(" + seg + ")";
    }

    private static String gateName(int seg, int index) {
        return "gate(" + seg + ", " + index + ")";
    }

    private static String wordName(int seg, int off) {
        return "peek(" + seg + ", " + off + ")";
    }
}

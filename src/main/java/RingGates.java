/**
 * One process that executes word-coded instructions under ring-bracket protection
 * over a table of segments. Ring 0 is the most privileged of the rings 0..7.
 */
public final class RingGates {
    public static final int STATUS_IDLE = 0;
    public static final int STATUS_READY = 1;
    public static final int STATUS_HALTED = 2;
    public static final int STATUS_FAULTED = 3;

    public static final int F_NONE = 0;
    public static final int F_SEG = 1;
    public static final int F_BOUND = 2;
    public static final int F_EXEC = 3;
    public static final int F_READ = 4;
    public static final int F_WRITE = 5;
    public static final int F_CALL = 6;
    public static final int F_GATE = 7;
    public static final int F_STACK = 8;
    public static final int F_FRAMES = 9;
    public static final int F_OPCODE = 10;

    public static final int FLAG_READ = 1;
    public static final int FLAG_WRITE = 2;
    public static final int FLAG_EXEC = 4;

    public static final int KIND_READ = 0;
    public static final int KIND_WRITE = 1;
    public static final int KIND_EXEC = 2;
    public static final int KIND_CALL = 3;

    public static final int OP_HLT = 0;
    public static final int OP_LDI = 1;
    public static final int OP_ADI = 2;
    public static final int OP_PTR = 3;
    public static final int OP_ADP = 4;
    public static final int OP_SWP = 5;
    public static final int OP_LD = 6;
    public static final int OP_ST = 7;
    public static final int OP_PUSH = 8;
    public static final int OP_POP = 9;
    public static final int OP_JMP = 10;
    public static final int OP_JZ = 11;
    public static final int OP_CALL = 12;
    public static final int OP_RET = 13;
    public static final int OP_RNG = 14;
    public static final int OP_PRG = 15;

    public static final int S_STATUS = 0;
    public static final int S_FAULT = 1;
    public static final int S_RING = 2;
    public static final int S_IC = 3;
    public static final int S_ACC = 4;
    public static final int S_P = 5;
    public static final int S_Q = 6;
    public static final int S_DEPTH = 7;
    public static final int S_COUNT = 8;

    public static final int FR_RETURN = 0;
    public static final int FR_CALLER_RING = 1;
    public static final int FR_FLOOR = 2;
    public static final int FR_SAVED_P = 3;
    public static final int FR_SAVED_Q = 4;
    public static final int FR_RING = 5;

    public static final int MAX_GATES = 4;
    public static final int MAX_RUN = 256;

    private static final int LEAST_SEGMENTS = 2;
    private static final int GREATEST_SEGMENTS = 8;
    private static final int LEAST_WORDS = 8;
    private static final int GREATEST_WORDS = 32;
    private static final int LEAST_DEPTH = 4;
    private static final int GREATEST_DEPTH = 16;
    private static final int RINGS = 8;
    private static final int FRAME_FIELDS = 6;

    private static final int WORD_CELLS = 256;
    private static final int GATE_CELLS = 32;
    private static final int STACK_CELLS = 128;
    private static final int FRAME_CELLS = 96;

    private static final int ALL_FLAGS = 7;
    private static final int GREATEST_RING = 7;
    private static final int GREATEST_BRACKETS = 4095;
    private static final int BYTE_MASK = 255;
    private static final int IMMEDIATE_MASK = 65535;
    private static final int IC_BASE = 256;

    private final int slotCount;
    private final int wordLimit;
    private final int depthLimit;

    // A length of 0 marks an undefined slot, because a defined segment has at least one word.
    private final int[] lengths = new int[GREATEST_SEGMENTS];
    private final int[] flagSets = new int[GREATEST_SEGMENTS];
    private final int[] bracketR1 = new int[GREATEST_SEGMENTS];
    private final int[] bracketR2 = new int[GREATEST_SEGMENTS];
    private final int[] bracketR3 = new int[GREATEST_SEGMENTS];
    private final int[] gateCounts = new int[GREATEST_SEGMENTS];
    private final int[] gateOffsets = new int[GATE_CELLS];
    private final int[] words = new int[WORD_CELLS];

    private final int[] heights = new int[RINGS];
    private final int[] stackCells = new int[STACK_CELLS];
    private final int[] frameCells = new int[FRAME_CELLS];

    private int status = STATUS_IDLE;
    private int faultCode = F_NONE;
    private int currentRing = 0;
    private int icSeg = 0;
    private int icOff = 0;
    private int acc = 0;
    // The pointer registers are kept in the packed form, so that frames save and restore them whole.
    private int pointerP = 0;
    private int pointerQ = 0;
    private int frameCount = 0;
    private int completedCount = 0;

    public RingGates(int segments, int segWords, int depth) {
        slotCount = clamp(segments, LEAST_SEGMENTS, GREATEST_SEGMENTS);
        wordLimit = clamp(segWords, LEAST_WORDS, GREATEST_WORDS);
        depthLimit = clamp(depth, LEAST_DEPTH, GREATEST_DEPTH);
    }

    public boolean defineSegment(int seg, int length, int flags, int brackets) {
        if (seg < 0 || seg >= slotCount) {
            return false;
        }
        if (length < 1 || length > wordLimit) {
            return false;
        }
        if (flags < 0 || flags > ALL_FLAGS) {
            return false;
        }
        if (brackets < 0 || brackets > GREATEST_BRACKETS) {
            return false;
        }
        int r1 = brackets & 15;
        int r2 = (brackets >> 4) & 15;
        int r3 = (brackets >> 8) & 15;
        if (r1 > r2 || r2 > r3 || r3 > GREATEST_RING) {
            return false;
        }
        lengths[seg] = length;
        flagSets[seg] = flags;
        bracketR1[seg] = r1;
        bracketR2[seg] = r2;
        bracketR3[seg] = r3;
        gateCounts[seg] = 0;
        clearWords(seg);
        return true;
    }

    public boolean addGate(int seg, int off) {
        if (!isWord(seg, off)) {
            return false;
        }
        int count = gateCounts[seg];
        if (count >= MAX_GATES || isGate(seg, off)) {
            return false;
        }
        gateOffsets[seg * MAX_GATES + count] = off;
        gateCounts[seg] = count + 1;
        return true;
    }

    public boolean poke(int seg, int off, int value) {
        if (!isWord(seg, off)) {
            return false;
        }
        words[seg * GREATEST_WORDS + off] = value;
        return true;
    }

    public int peek(int seg, int off) {
        if (!isWord(seg, off)) {
            return 0;
        }
        return words[seg * GREATEST_WORDS + off];
    }

    public int segment(int seg) {
        if (!isDefined(seg)) {
            return -1;
        }
        int brackets = bracketR1[seg] << 12 | bracketR2[seg] << 16 | bracketR3[seg] << 20;
        return lengths[seg] | flagSets[seg] << 8 | brackets | gateCounts[seg] << 24;
    }

    public int gate(int seg, int index) {
        if (!isDefined(seg) || index < 0 || index >= gateCounts[seg]) {
            return -1;
        }
        return gateOffsets[seg * MAX_GATES + index];
    }

    public boolean access(int seg, int off, int ring, int kind) {
        if (!isRing(ring) || !isWord(seg, off)) {
            return false;
        }
        switch (kind) {
            case KIND_READ:
                return mayRead(seg, ring);
            case KIND_WRITE:
                return mayWrite(seg, ring);
            case KIND_EXEC:
                return mayExecute(seg, ring);
            case KIND_CALL:
                return isCallable(seg, ring) && (ring <= bracketR2[seg] || isGate(seg, off));
            default:
                return false;
        }
    }

    public boolean start(int seg, int off, int ring) {
        if (seg < 0 || seg >= slotCount || off < 0 || off >= wordLimit || !isRing(ring)) {
            return false;
        }
        status = STATUS_READY;
        faultCode = F_NONE;
        currentRing = ring;
        icSeg = seg;
        icOff = off;
        acc = 0;
        pointerP = packPointer(0, 0, ring);
        pointerQ = pointerP;
        frameCount = 0;
        completedCount = 0;
        emptyStacks();
        return true;
    }

    public int run(int steps) {
        int limit = steps < MAX_RUN ? steps : MAX_RUN;
        int completed = 0;
        for (int taken = 0; taken < limit && status == STATUS_READY; taken++) {
            if (takeStep()) {
                completed++;
            }
        }
        return completed;
    }

    public int state(int which) {
        switch (which) {
            case S_STATUS:
                return status;
            case S_FAULT:
                return faultCode;
            case S_RING:
                return currentRing;
            case S_IC:
                return icSeg * IC_BASE + icOff;
            case S_ACC:
                return acc;
            case S_P:
                return pointerP;
            case S_Q:
                return pointerQ;
            case S_DEPTH:
                return frameCount;
            case S_COUNT:
                return completedCount;
            default:
                return 0;
        }
    }

    public int frame(int level, int field) {
        if (level < 0 || level >= frameCount || field < 0 || field >= FRAME_FIELDS) {
            return -1;
        }
        return frameCells[level * FRAME_FIELDS + field];
    }

    public int stackHeight(int ring) {
        return isRing(ring) ? heights[ring] : -1;
    }

    public int stackValue(int ring, int index) {
        if (!isRing(ring) || index < 0 || index >= heights[ring]) {
            return 0;
        }
        return stackCells[ring * GREATEST_DEPTH + index];
    }

    private static int clamp(int value, int least, int greatest) {
        if (value < least) {
            return least;
        }
        return value > greatest ? greatest : value;
    }

    private static int packPointer(int seg, int off, int ring) {
        return seg << 16 | off << 8 | ring;
    }

    private static int pointerSeg(int pointer) {
        return (pointer >> 16) & BYTE_MASK;
    }

    private static int pointerOff(int pointer) {
        return (pointer >> 8) & BYTE_MASK;
    }

    private static int pointerRing(int pointer) {
        return pointer & GREATEST_RING;
    }

    private static int raisedTo(int pointer, int least) {
        return pointerRing(pointer) < least ? (pointer & ~GREATEST_RING) | least : pointer;
    }

    private static boolean isRing(int number) {
        return number >= 0 && number <= GREATEST_RING;
    }

    private boolean isDefined(int seg) {
        return seg >= 0 && seg < slotCount && lengths[seg] > 0;
    }

    private boolean isWord(int seg, int off) {
        return isDefined(seg) && off >= 0 && off < lengths[seg];
    }

    private boolean isGate(int seg, int off) {
        int first = seg * MAX_GATES;
        int count = gateCounts[seg];
        for (int index = 0; index < count; index++) {
            if (gateOffsets[first + index] == off) {
                return true;
            }
        }
        return false;
    }

    private boolean hasFlag(int seg, int flag) {
        return (flagSets[seg] & flag) != 0;
    }

    private boolean mayRead(int seg, int atRing) {
        return hasFlag(seg, FLAG_READ) && atRing <= bracketR2[seg];
    }

    private boolean mayWrite(int seg, int atRing) {
        return hasFlag(seg, FLAG_WRITE) && atRing <= bracketR1[seg];
    }

    private boolean mayExecute(int seg, int atRing) {
        return hasFlag(seg, FLAG_EXEC) && bracketR1[seg] <= atRing && atRing <= bracketR2[seg];
    }

    private boolean isCallable(int seg, int atRing) {
        return hasFlag(seg, FLAG_EXEC) && atRing <= bracketR3[seg];
    }

    private void clearWords(int seg) {
        int first = seg * GREATEST_WORDS;
        for (int off = 0; off < GREATEST_WORDS; off++) {
            words[first + off] = 0;
        }
    }

    private void emptyStacks() {
        for (int number = 0; number < RINGS; number++) {
            heights[number] = 0;
        }
    }

    // Answers whether the step was completed. The parts of a step answer a fault code,
    // and change nothing unless it is F_NONE, so a fault is recorded in this one place.
    private boolean takeStep() {
        int code = fetchFault();
        if (code == F_NONE) {
            code = execute(words[icSeg * GREATEST_WORDS + icOff]);
        }
        if (code != F_NONE) {
            status = STATUS_FAULTED;
            faultCode = code;
            return false;
        }
        completedCount++;
        return true;
    }

    private int fetchFault() {
        int code = placeFault(icSeg, icOff);
        if (code != F_NONE) {
            return code;
        }
        return mayExecute(icSeg, currentRing) ? F_NONE : F_EXEC;
    }

    private int placeFault(int seg, int off) {
        if (!isDefined(seg)) {
            return F_SEG;
        }
        return off < lengths[seg] ? F_NONE : F_BOUND;
    }

    private int execute(int word) {
        int op = (word >>> 16) & BYTE_MASK;
        int x = (word >>> 8) & BYTE_MASK;
        int y = word & BYTE_MASK;
        switch (op) {
            case OP_HLT:
                status = STATUS_HALTED;
                return F_NONE;
            case OP_LD:
                return load();
            case OP_ST:
                return store();
            case OP_PUSH:
                return push();
            case OP_POP:
                return pop();
            case OP_JMP:
                icOff = y;
                return F_NONE;
            case OP_JZ:
                icOff = acc == 0 ? y : icOff + 1;
                return F_NONE;
            case OP_CALL:
                return callSegment(x, y);
            case OP_RET:
                return returnToCaller();
            default:
                return executeOnRegisters(op, word);
        }
    }

    private int executeOnRegisters(int op, int word) {
        int x = (word >>> 8) & BYTE_MASK;
        int y = word & BYTE_MASK;
        int v = word & IMMEDIATE_MASK;
        switch (op) {
            case OP_LDI:
                acc = v;
                break;
            case OP_ADI:
                acc = acc + v;
                break;
            case OP_PTR:
                pointerP = packPointer(x, y, currentRing);
                break;
            case OP_ADP:
                advancePointer(y);
                break;
            case OP_SWP:
                swapPointers();
                break;
            case OP_RNG:
                acc = currentRing;
                break;
            case OP_PRG:
                acc = pointerRing(pointerP);
                break;
            default:
                return F_OPCODE;
        }
        icOff++;
        return F_NONE;
    }

    private void advancePointer(int distance) {
        int seg = pointerSeg(pointerP);
        int off = (pointerOff(pointerP) + distance) & BYTE_MASK;
        int held = pointerRing(pointerP);
        pointerP = packPointer(seg, off, held);
    }

    private void swapPointers() {
        int formerP = pointerP;
        pointerP = pointerQ;
        pointerQ = formerP;
    }

    private int effectiveRing() {
        int held = pointerRing(pointerP);
        return held > currentRing ? held : currentRing;
    }

    private int load() {
        int seg = pointerSeg(pointerP);
        int off = pointerOff(pointerP);
        int code = placeFault(seg, off);
        if (code != F_NONE) {
            return code;
        }
        int effective = effectiveRing();
        if (!mayRead(seg, effective)) {
            return F_READ;
        }
        acc = words[seg * GREATEST_WORDS + off];
        icOff++;
        return F_NONE;
    }

    private int store() {
        int seg = pointerSeg(pointerP);
        int off = pointerOff(pointerP);
        int code = placeFault(seg, off);
        if (code != F_NONE) {
            return code;
        }
        int effective = effectiveRing();
        if (!mayWrite(seg, effective)) {
            return F_WRITE;
        }
        words[seg * GREATEST_WORDS + off] = acc;
        icOff++;
        return F_NONE;
    }

    private int push() {
        int height = heights[currentRing];
        if (height >= depthLimit) {
            return F_STACK;
        }
        stackCells[currentRing * GREATEST_DEPTH + height] = acc;
        heights[currentRing] = height + 1;
        icOff++;
        return F_NONE;
    }

    private int pop() {
        int height = heights[currentRing];
        if (height <= innermostFloor()) {
            return F_STACK;
        }
        acc = stackCells[currentRing * GREATEST_DEPTH + height - 1];
        heights[currentRing] = height - 1;
        icOff++;
        return F_NONE;
    }

    private int innermostFloor() {
        if (frameCount == 0) {
            return 0;
        }
        return frameCells[(frameCount - 1) * FRAME_FIELDS + FR_FLOOR];
    }

    private int callSegment(int seg, int entry) {
        int code = placeFault(seg, entry);
        if (code != F_NONE) {
            return code;
        }
        if (!isCallable(seg, currentRing)) {
            return F_CALL;
        }
        if (currentRing > bracketR2[seg] && !isGate(seg, entry)) {
            return F_GATE;
        }
        if (frameCount >= depthLimit) {
            return F_FRAMES;
        }
        int entered = clamp(currentRing, bracketR1[seg], bracketR2[seg]);
        pushFrame(entered);
        // The callee must not reach through these pointers with more privilege than its caller had.
        pointerP = raisedTo(pointerP, currentRing);
        pointerQ = raisedTo(pointerQ, currentRing);
        currentRing = entered;
        icSeg = seg;
        icOff = entry;
        return F_NONE;
    }

    private void pushFrame(int entered) {
        int first = frameCount * FRAME_FIELDS;
        frameCells[first + FR_RETURN] = icSeg * IC_BASE + icOff + 1;
        frameCells[first + FR_CALLER_RING] = currentRing;
        frameCells[first + FR_FLOOR] = heights[entered];
        frameCells[first + FR_SAVED_P] = pointerP;
        frameCells[first + FR_SAVED_Q] = pointerQ;
        frameCells[first + FR_RING] = entered;
        frameCount++;
    }

    private int returnToCaller() {
        if (frameCount == 0) {
            return F_FRAMES;
        }
        int first = (frameCount - 1) * FRAME_FIELDS;
        int returnIc = frameCells[first + FR_RETURN];
        // The cut is made while currentRing still names the callee's stack.
        heights[currentRing] = frameCells[first + FR_FLOOR];
        currentRing = frameCells[first + FR_CALLER_RING];
        icSeg = returnIc / IC_BASE;
        icOff = returnIc % IC_BASE;
        pointerP = frameCells[first + FR_SAVED_P];
        pointerQ = frameCells[first + FR_SAVED_Q];
        frameCount--;
        return F_NONE;
    }
}

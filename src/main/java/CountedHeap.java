/** A machine with a frame, a heap of typed blocks whose pointers are counted, and a program that works on both. */
public final class CountedHeap {
    private static final int TYPES = 4;
    private static final int MOST_WORDS = 6;
    private static final int MOST_BLOCKS = 24;
    private static final int FRAME_INTS = 4;
    private static final int FRAME_POINTERS = 4;
    private static final int FRAME_CELLS = FRAME_INTS + FRAME_POINTERS;
    private static final int MOST_INSTRUCTIONS = 40;
    private static final int MOST_OPEN = 8;
    private static final int MOST_STEPS = 500;
    private static final int NIL = 0;
    private static final int NONE = -1;
    private static final long NO_WORD = 4294967296L;

    private static final int FIRST_WORD_OPERAND = 16;
    private static final int OPERANDS_A_POINTER = 8;
    private static final int WORD_OPERANDS_END = FIRST_WORD_OPERAND + OPERANDS_A_POINTER * FRAME_POINTERS;

    private static final int OP_HALT = 0;
    private static final int OP_NUMBER = 1;
    private static final int OP_COPY_INT = 2;
    private static final int OP_PLUS = 3;
    private static final int OP_MINUS = 4;
    private static final int OP_TIMES = 5;
    private static final int OP_LESS = 6;
    private static final int OP_JUMP = 7;
    private static final int OP_JUMP_IF = 8;
    private static final int OP_NEW_BLOCK = 9;
    private static final int OP_COPY_POINTER = 10;
    private static final int OP_NIL = 11;
    private static final int OP_SAME = 12;
    private static final int OP_CALL = 13;
    private static final int OP_RETURN = 14;

    // What an op's number stands for; ANY is a number that the op does not use or takes as it is.
    private static final int ANY = 0;
    private static final int INT = 1;
    private static final int POINTER = 2;
    private static final int PLACE = 3;
    private static final int TYPE = 4;

    // One entry for each op, 0 .. 14. X also tells what the op writes: an int, a pointer or nothing.
    private static final int[] ROLE_OF_X =
        {ANY, INT, INT, INT, INT, INT, INT, PLACE, PLACE, POINTER, POINTER, POINTER, INT, PLACE, ANY};
    private static final int[] ROLE_OF_Y =
        {ANY, ANY, INT, INT, INT, INT, INT, ANY, INT, TYPE, POINTER, ANY, POINTER, ANY, ANY};
    private static final int[] ROLE_OF_Z =
        {ANY, ANY, ANY, INT, INT, INT, INT, ANY, ANY, ANY, ANY, ANY, POINTER, ANY, ANY};

    private final Program program = new Program();
    private final Memory memory = new Memory();
    private final int[] returnPlaces = new int[MOST_OPEN];
    private int openCalls = 0;
    private int nextPlace = 0;

    public CountedHeap() {
    }

    public boolean type(int t, int size, int map) {
        if (!isType(t) || size < 1 || size > MOST_WORDS) {
            return false;
        }
        if (map < 0 || (map >> size) != 0 || memory.hasBlockOfType(t)) {
            return false;
        }
        memory.changeType(t, size, map);
        return true;
    }

    public int add(int op, int x, int y, int z) {
        if (op < 0 || op >= ROLE_OF_X.length) {
            return -1;
        }
        if (!fits(ROLE_OF_X[op], x) || !fits(ROLE_OF_Y[op], y) || !fits(ROLE_OF_Z[op], z)) {
            return -2;
        }
        if (program.isFull()) {
            return -3;
        }
        return program.append(op, x, y, z);
    }

    public int clear() {
        goTo(0);
        return program.removeAll();
    }

    public boolean start(int p) {
        if (!isPlace(p)) {
            return false;
        }
        goTo(p);
        return true;
    }

    public int run(int n)
            throws IllegalStateException, IndexOutOfBoundsException, IllegalArgumentException,
            UnsupportedOperationException {
        if (n < 0 || n > MOST_STEPS) {
            throw new IllegalArgumentException("the number of instructions is not 0 .. 500");
        }
        for (int done = 0; done < n; done++) {
            if (!program.has(nextPlace)) {
                return done;
            }
            if (program.opAt(nextPlace) == OP_HALT) {
                return done + 1;
            }
            doInstruction(nextPlace);
        }
        return n;
    }

    public int next() {
        return nextPlace;
    }

    public int open() {
        return openCalls;
    }

    public int frame(int i) {
        return isFrameInt(i) ? memory.read(i) : 0;
    }

    public boolean set(int i, int v) {
        if (!isFrameInt(i)) {
            return false;
        }
        memory.writeInt(i, v);
        return true;
    }

    public int root(int i) {
        return i >= 0 && i < FRAME_POINTERS ? memory.read(FRAME_INTS + i) : -1;
    }

    public int blocks() {
        return memory.blockTotal();
    }

    public int count(int b) {
        return memory.countOf(b);
    }

    public int typeOf(int b) {
        return memory.blockType(b);
    }

    public long word(int b, int w) {
        return memory.hasWord(b, w) ? memory.read(Memory.cellOfWord(b, w)) : NO_WORD;
    }

    public int given() {
        return memory.givenTotal();
    }

    public int lost() {
        return memory.findLost();
    }

    public int collect() {
        return memory.giveBackLost();
    }

    private static boolean isType(int t) {
        return t >= 0 && t < TYPES;
    }

    private static boolean isPlace(int p) {
        return p >= 0 && p < MOST_INSTRUCTIONS;
    }

    private static boolean isFrameInt(int i) {
        return i >= 0 && i < FRAME_INTS;
    }

    private static boolean isOperand(int number) {
        return number >= 0 && number < FRAME_CELLS
            || number >= FIRST_WORD_OPERAND && number < WORD_OPERANDS_END;
    }

    private static boolean fits(int role, int number) {
        switch (role) {
            case INT:
            case POINTER:
                return isOperand(number);
            case PLACE:
                return isPlace(number);
            case TYPE:
                return isType(number);
            default:
                return true;
        }
    }

    private void goTo(int place) {
        nextPlace = place;
        openCalls = 0;
    }

    private void doInstruction(int place) {
        int op = program.opAt(place);
        int x = program.xAt(place);
        int y = program.yAt(place);
        int z = program.zAt(place);
        // All faults are looked at before the first change, so that a faulty instruction changes nothing.
        checkOperand(ROLE_OF_X[op], x);
        checkOperand(ROLE_OF_Y[op], y);
        checkOperand(ROLE_OF_Z[op], z);
        checkRoom(op);
        if (ROLE_OF_X[op] == INT) {
            memory.writeInt(memory.cellOf(x), intResult(op, y, z));
        } else if (ROLE_OF_X[op] == POINTER) {
            memory.writePointer(memory.cellOf(x), pointerResult(op, y));
        }
        nextPlace = placeAfter(op, place, x, y);
    }

    private void checkOperand(int role, int operand) {
        if (role != INT && role != POINTER) {
            return;
        }
        if (operand >= FIRST_WORD_OPERAND) {
            checkWord(memory.blockOf(operand), Memory.wordOf(operand));
        }
        if (memory.holdsPointer(operand) != (role == POINTER)) {
            throw new IllegalArgumentException("the operand is of the other kind");
        }
    }

    private void checkWord(int block, int w) {
        if (block == NIL) {
            throw new IllegalStateException("the operand's pointer is nil");
        }
        if (!memory.hasWord(block, w)) {
            throw new IndexOutOfBoundsException("the block has no such word");
        }
    }

    private void checkRoom(int op) {
        if (op == OP_NEW_BLOCK && memory.isFull()) {
            throw new UnsupportedOperationException("there are 24 blocks");
        }
        if (op == OP_CALL && openCalls >= MOST_OPEN) {
            throw new UnsupportedOperationException("the stack is full");
        }
        if (op == OP_RETURN && openCalls <= 0) {
            throw new IllegalStateException("the stack is empty");
        }
    }

    private int intResult(int op, int y, int z) {
        switch (op) {
            case OP_NUMBER:
                return y;
            case OP_COPY_INT:
                return valueOf(y);
            case OP_PLUS:
                return valueOf(y) + valueOf(z);
            case OP_MINUS:
                return valueOf(y) - valueOf(z);
            case OP_TIMES:
                return valueOf(y) * valueOf(z);
            case OP_LESS:
                return valueOf(y) < valueOf(z) ? 1 : 0;
            case OP_SAME:
                return valueOf(y) == valueOf(z) ? 1 : 0;
            default:
                return 0;
        }
    }

    private int pointerResult(int op, int y) {
        switch (op) {
            case OP_NEW_BLOCK:
                return memory.makeBlock(y);
            case OP_COPY_POINTER:
                return valueOf(y);
            case OP_NIL:
            default:
                return NIL;
        }
    }

    private int valueOf(int operand) {
        return memory.read(memory.cellOf(operand));
    }

    private int placeAfter(int op, int place, int x, int y) {
        switch (op) {
            case OP_JUMP:
                return x;
            case OP_JUMP_IF:
                return valueOf(y) != 0 ? x : place + 1;
            case OP_CALL:
                returnPlaces[openCalls] = place + 1;
                openCalls++;
                return x;
            case OP_RETURN:
                openCalls--;
                return returnPlaces[openCalls];
            default:
                return place + 1;
        }
    }

    /** The instructions. A place is looked at with has() before it is read. */
    private static final class Program {
        private final int[] ops = new int[MOST_INSTRUCTIONS];
        private final int[] xs = new int[MOST_INSTRUCTIONS];
        private final int[] ys = new int[MOST_INSTRUCTIONS];
        private final int[] zs = new int[MOST_INSTRUCTIONS];
        private int length = 0;

        boolean isFull() {
            return length >= MOST_INSTRUCTIONS;
        }

        boolean has(int place) {
            return place >= 0 && place < length;
        }

        int append(int op, int x, int y, int z) {
            int place = length;
            ops[place] = op;
            xs[place] = x;
            ys[place] = y;
            zs[place] = z;
            length++;
            return place;
        }

        int removeAll() {
            int removed = length;
            length = 0;
            return removed;
        }

        int opAt(int place) {
            return ops[place];
        }

        int xAt(int place) {
            return xs[place];
        }

        int yAt(int place) {
            return ys[place];
        }

        int zAt(int place) {
            return zs[place];
        }
    }

    /**
     * The frame and the heap in one row of cells, so that an operand is a cell wherever it stands:
     * F0 .. F3, P0 .. P3, then six cells for each block. A pointer's cell holds the block's number.
     */
    private static final class Memory {
        private final int[] sizes = {1, 1, 1, 1};
        private final int[] maps = new int[TYPES];
        private final int[] cells = new int[FRAME_CELLS + MOST_BLOCKS * MOST_WORDS];
        private final boolean[] used = new boolean[MOST_BLOCKS + 1];
        private final int[] types = new int[MOST_BLOCKS + 1];
        private final int[] counts = new int[MOST_BLOCKS + 1];
        private final boolean[] reached = new boolean[MOST_BLOCKS + 1];
        // Blocks whose pointers are still to be followed. No block enters twice in one search, so it never overflows.
        private final int[] queue = new int[MOST_BLOCKS];
        private int queued = 0;
        private int usedTotal = 0;
        private int givenBack = 0;

        static int wordOf(int operand) {
            return (operand - FIRST_WORD_OPERAND) % OPERANDS_A_POINTER;
        }

        static int cellOfWord(int block, int w) {
            return FRAME_CELLS + (block - 1) * MOST_WORDS + w;
        }

        int blockOf(int operand) {
            return cells[FRAME_INTS + (operand - FIRST_WORD_OPERAND) / OPERANDS_A_POINTER];
        }

        int cellOf(int operand) {
            return operand < FRAME_CELLS ? operand : cellOfWord(blockOf(operand), wordOf(operand));
        }

        boolean holdsPointer(int operand) {
            return operand < FRAME_CELLS
                ? operand >= FRAME_INTS
                : isPointerWord(blockOf(operand), wordOf(operand));
        }

        boolean isBlock(int b) {
            return b >= 1 && b <= MOST_BLOCKS && used[b];
        }

        boolean hasWord(int b, int w) {
            return isBlock(b) && w >= 0 && w < sizes[types[b]];
        }

        boolean isPointerWord(int b, int w) {
            return hasWord(b, w) && isMapped(b, w);
        }

        // For b 1 .. 24, be it a block still or just given back; no map has bits from its type's size on.
        private boolean isMapped(int b, int w) {
            return ((maps[types[b]] >> w) & 1) == 1;
        }

        boolean isFull() {
            return usedTotal >= MOST_BLOCKS;
        }

        int blockTotal() {
            return usedTotal;
        }

        int givenTotal() {
            return givenBack;
        }

        int countOf(int b) {
            return isBlock(b) ? counts[b] : NONE;
        }

        int blockType(int b) {
            return isBlock(b) ? types[b] : NONE;
        }

        boolean hasBlockOfType(int t) {
            for (int b = 1; b <= MOST_BLOCKS; b++) {
                if (used[b] && types[b] == t) {
                    return true;
                }
            }
            return false;
        }

        void changeType(int t, int size, int map) {
            sizes[t] = size;
            maps[t] = map;
        }

        int read(int cell) {
            return cells[cell];
        }

        void writeInt(int cell, int value) {
            cells[cell] = value;
        }

        void writePointer(int cell, int block) {
            int before = cells[cell];
            cells[cell] = block;
            // One more comes first: else a block that is written over itself would be given back.
            if (isBlock(block)) {
                counts[block]++;
            }
            dropPointer(before);
        }

        /** The new block's number; its count is 0 until a pointer to it is written. */
        int makeBlock(int t) {
            for (int b = 1; b <= MOST_BLOCKS; b++) {
                if (!used[b]) {
                    used[b] = true;
                    types[b] = t;
                    counts[b] = 0;
                    usedTotal++;
                    emptyWords(b);
                    return b;
                }
            }
            return NIL;
        }

        private void emptyWords(int b) {
            for (int w = 0; w < MOST_WORDS; w++) {
                cells[cellOfWord(b, w)] = 0;
            }
        }

        private void dropPointer(int block) {
            queued = 0;
            countLess(block);
            for (int i = 0; i < queued && i < MOST_BLOCKS; i++) {
                dropPointersOf(queue[i]);
            }
        }

        private void dropPointersOf(int b) {
            for (int w = 0; w < MOST_WORDS; w++) {
                if (isMapped(b, w)) {
                    countLess(cells[cellOfWord(b, w)]);
                }
            }
        }

        private void countLess(int b) {
            if (!isBlock(b)) {
                return;
            }
            counts[b]--;
            if (counts[b] == 0) {
                giveBack(b);
                enqueue(b);
            }
        }

        private void giveBack(int b) {
            used[b] = false;
            usedTotal--;
            givenBack++;
        }

        private void enqueue(int b) {
            if (queued < MOST_BLOCKS) {
                queue[queued] = b;
                queued++;
            }
        }

        /** Marks what can be come to from the frame; answers how many blocks cannot. */
        int findLost() {
            queued = 0;
            for (int b = 1; b <= MOST_BLOCKS; b++) {
                reached[b] = false;
            }
            for (int k = 0; k < FRAME_POINTERS; k++) {
                reach(cells[FRAME_INTS + k]);
            }
            for (int i = 0; i < queued && i < MOST_BLOCKS; i++) {
                reachPointersOf(queue[i]);
            }
            return usedTotal - queued;
        }

        private void reachPointersOf(int b) {
            for (int w = 0; w < MOST_WORDS; w++) {
                if (isPointerWord(b, w)) {
                    reach(cells[cellOfWord(b, w)]);
                }
            }
        }

        private void reach(int b) {
            if (isBlock(b) && !reached[b]) {
                reached[b] = true;
                enqueue(b);
            }
        }

        int giveBackLost() {
            int lostTotal = findLost();
            for (int b = 1; b <= MOST_BLOCKS; b++) {
                if (used[b] && !reached[b]) {
                    takeOffCountsOf(b);
                    giveBack(b);
                }
            }
            return lostTotal;
        }

        // Only the blocks that stay are counted down: the lost ones go together, whatever their counts.
        private void takeOffCountsOf(int b) {
            for (int w = 0; w < MOST_WORDS; w++) {
                if (isPointerWord(b, w)) {
                    int target = cells[cellOfWord(b, w)];
                    if (isBlock(target) && reached[target]) {
                        counts[target]--;
                    }
                }
            }
        }
    }
}

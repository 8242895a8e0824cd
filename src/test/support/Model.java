import java.util.ArrayList;
import java.util.HashSet;
import java.util.List;
import java.util.Set;

/**
 * The document's machine told another way: blocks are objects that point to one another, and nothing is counted
 * along the way. A count is the number of pointers found when it is asked for, and what has none is given back.
 */
final class Model {
    private static final class Type {
        final int size;
        final int map;

        Type(int size, int map) {
            this.size = size;
            this.map = map;
        }
    }

    private static final class Slot {
        final boolean pointer;
        int value;
        Block target;

        Slot(boolean pointer) {
            this.pointer = pointer;
        }
    }

    private static final class Block {
        final int number;
        final int type;
        final List<Slot> words = new ArrayList<>();

        Block(int number, int type, Type shape) {
            this.number = number;
            this.type = type;
            for (int w = 0; w < shape.size; w++) {
                words.add(new Slot((shape.map & (1 << w)) != 0));
            }
        }
    }

    private final Type[] types = new Type[4];
    private final List<int[]> program = new ArrayList<>();
    private final List<Slot> frame = new ArrayList<>();
    private final Block[] heap = new Block[25];
    private final List<Integer> stack = new ArrayList<>();
    private int next = 0;
    private int given = 0;

    Model() {
        for (int k = 0; k < 8; k++) {
            frame.add(new Slot(k >= 4));
        }
        for (int t = 0; t < 4; t++) {
            types[t] = new Type(1, 0);
        }
    }

    boolean type(int t, int size, int map) {
        if (t < 0 || t > 3 || size < 1 || size > 6 || map < 0 || map >= 1 << size) {
            return false;
        }
        for (Block block : heap) {
            if (block != null && block.type == t) {
                return false;
            }
        }
        types[t] = new Type(size, map);
        return true;
    }

    /** Takes an instruction that is known to be well formed. */
    int addSound(int op, int x, int y, int z) {
        if (program.size() == 40) {
            return -3;
        }
        program.add(new int[] {op, x, y, z});
        return program.size() - 1;
    }

    int clear() {
        int size = program.size();
        program.clear();
        start(0);
        return size;
    }

    boolean start(int p) {
        if (p < 0 || p > 39) {
            return false;
        }
        next = p;
        stack.clear();
        return true;
    }

    String outcome(int n) {
        if (n < 0 || n > 500) {
            return "IllegalArgumentException";
        }
        int done = 0;
        while (done < n && next < program.size()) {
            int[] instruction = program.get(next);
            if (instruction[0] == 0) {
                return Integer.toString(done + 1);
            }
            String fault = fault(instruction);
            if (fault != null) {
                return fault;
            }
            perform(instruction);
            giveBackUncounted();
            done++;
        }
        return Integer.toString(done);
    }

    private static final String[] KINDS = {
        "---", "i--", "ii-", "iii", "iii", "iii", "iii", "---", "-i-", "p--", "pp-", "p--", "ipp", "---", "---"};

    private String fault(int[] instruction) {
        int op = instruction[0];
        for (int k = 0; k < 3; k++) {
            char kind = KINDS[op].charAt(k);
            String found = kind == '-' ? null : operandFault(instruction[k + 1], kind == 'p');
            if (found != null) {
                return found;
            }
        }
        if (op == 9 && blocks() == 24 || op == 13 && stack.size() == 8) {
            return "UnsupportedOperationException";
        }
        return op == 14 && stack.isEmpty() ? "IllegalStateException" : null;
    }

    private String operandFault(int operand, boolean pointer) {
        if (operand >= 16) {
            Block block = frame.get(4 + (operand >> 3) - 2).target;
            if (block == null) {
                return "IllegalStateException";
            }
            if ((operand & 7) >= block.words.size()) {
                return "IndexOutOfBoundsException";
            }
        }
        return slot(operand).pointer == pointer ? null : "IllegalArgumentException";
    }

    /** For the makers of runs: whether the operand has no fault as things stand. */
    boolean isSound(int operand, boolean pointer) {
        return operandFault(operand, pointer) == null;
    }

    /** For the makers of runs: whether the operand is a pointer that may be written and no block given back. */
    boolean isSpare(int operand) {
        return isSound(operand, true)
            && (slot(operand).target == null || count(slot(operand).target.number) > 1);
    }

    private Slot slot(int operand) {
        return operand < 8 ? frame.get(operand) : frame.get(4 + (operand >> 3) - 2).target.words.get(operand & 7);
    }

    private void perform(int[] instruction) {
        int op = instruction[0];
        int x = instruction[1];
        int y = instruction[2];
        int z = instruction[3];
        next++;
        if (op == 1) {
            slot(x).value = y;
        } else if (op == 2) {
            slot(x).value = slot(y).value;
        } else if (op == 3) {
            slot(x).value = (int) ((long) slot(y).value + slot(z).value);
        } else if (op == 4) {
            slot(x).value = (int) ((long) slot(y).value - slot(z).value);
        } else if (op == 5) {
            slot(x).value = (int) ((long) slot(y).value * slot(z).value);
        } else if (op == 6) {
            slot(x).value = Integer.compare(slot(y).value, slot(z).value) < 0 ? 1 : 0;
        } else if (op == 7 || op == 8 && slot(y).value != 0) {
            next = x;
        } else if (op == 9) {
            slot(x).target = newBlock(y);
        } else if (op == 10) {
            slot(x).target = slot(y).target;
        } else if (op == 11) {
            slot(x).target = null;
        } else if (op == 12) {
            slot(x).value = slot(y).target == slot(z).target ? 1 : 0;
        } else if (op == 13) {
            stack.add(next);
            next = x;
        } else if (op == 14) {
            next = stack.remove(stack.size() - 1);
        }
    }

    private Block newBlock(int t) {
        int number = 1;
        while (heap[number] != null) {
            number++;
        }
        heap[number] = new Block(number, t, types[t]);
        return heap[number];
    }

    private void giveBackUncounted() {
        boolean again = true;
        while (again) {
            again = false;
            for (int b = 1; b <= 24; b++) {
                if (heap[b] != null && count(b) == 0) {
                    heap[b] = null;
                    given++;
                    again = true;
                }
            }
        }
    }

    int next() {
        return next;
    }

    int open() {
        return stack.size();
    }

    int frame(int i) {
        return i < 0 || i > 3 ? 0 : frame.get(i).value;
    }

    boolean set(int i, int v) {
        if (i < 0 || i > 3) {
            return false;
        }
        frame.get(i).value = v;
        return true;
    }

    int root(int i) {
        return i < 0 || i > 3 ? -1 : numberOf(frame.get(4 + i).target);
    }

    int blocks() {
        int total = 0;
        for (Block block : heap) {
            total += block == null ? 0 : 1;
        }
        return total;
    }

    private boolean has(int b) {
        return b >= 1 && b <= 24 && heap[b] != null;
    }

    int count(int b) {
        if (!has(b)) {
            return -1;
        }
        int total = 0;
        for (Slot slot : frame) {
            total += slot.target == heap[b] ? 1 : 0;
        }
        for (Block block : heap) {
            if (block != null) {
                for (Slot slot : block.words) {
                    total += slot.target == heap[b] ? 1 : 0;
                }
            }
        }
        return total;
    }

    int typeOf(int b) {
        return has(b) ? heap[b].type : -1;
    }

    long word(int b, int w) {
        if (!has(b) || w < 0 || w >= heap[b].words.size()) {
            return 1L << 32;
        }
        Slot slot = heap[b].words.get(w);
        return slot.pointer ? numberOf(slot.target) : slot.value;
    }

    private static int numberOf(Block block) {
        return block == null ? 0 : block.number;
    }

    int given() {
        return given;
    }

    int lost() {
        return blocks() - reached().size();
    }

    private Set<Block> reached() {
        Set<Block> reached = new HashSet<>();
        for (Slot slot : frame) {
            reach(slot.target, reached);
        }
        return reached;
    }

    private static void reach(Block block, Set<Block> reached) {
        if (block != null && reached.add(block)) {
            for (Slot slot : block.words) {
                reach(slot.target, reached);
            }
        }
    }

    int collect() {
        Set<Block> reached = reached();
        int collected = 0;
        for (int b = 1; b <= 24; b++) {
            if (heap[b] != null && !reached.contains(heap[b])) {
                heap[b] = null;
                collected++;
            }
        }
        given += collected;
        return collected;
    }
}

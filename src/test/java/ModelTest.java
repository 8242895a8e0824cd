/**
 * Made-up runs of calls, the class beside the plain model. The runs are the same at every start, and no object is
 * asked more often than the 512 times for which the document answers.
 */
public final class ModelTest {
    private static final int RUNS = 12000;
    private static final int MOST_CALLS = 512;
    // What lookAtAll() asks, and the most that one step of a run does and asks before it.
    private static final int CALLS_OF_LOOK = 277;
    private static final int CALLS_OF_STEP = 48;

    // By op: 'i' an int, 'p' a pointer, 'l' a place, 't' a type, '-' any number.
    private static final String[] NUMBERS = {
        "---", "i--", "ii-", "iii", "iii", "iii", "iii", "l--", "li-", "pt-", "pp-", "p--", "ipp", "l--", "---"};
    // Ops that fill and tangle the heap come more often than the rest.
    private static final int[] OPS = {
        0, 1, 2, 3, 4, 5, 6, 7, 8, 12, 13, 14, 9, 9, 9, 9, 9, 9, 9, 9, 9, 9, 9, 9, 10, 10, 10, 10, 10, 10, 10, 10, 11};

    private final Check check = new Check();
    private long seed = 20261116L;
    private CountedHeap heap = new CountedHeap();
    private Model model = new Model();
    private int calls = 0;
    // In every other run the heap begins nearly full, and pointers are mostly written where no block is given back.
    private boolean growing = false;
    private int fullHeaps = 0;
    private int lostBlocks = 0;
    private int givenBlocks = 0;
    private int longestRun = 0;

    public static void main(String[] args) {
        new ModelTest().compareAll();
    }

    private void compareAll() {
        for (int run = 0; run < RUNS && check.allAsDue(); run++) {
            compare(run);
        }
        check.about("the runs come to full heaps, lost blocks and blocks given back");
        check.is("full heaps, " + fullHeaps, fullHeaps > 1000, true);
        check.is("lost blocks, " + lostBlocks, lostBlocks > 1000, true);
        check.is("blocks given back, " + givenBlocks, givenBlocks > 10000, true);
        check.is("calls of the longest run, " + longestRun, longestRun > 450 && longestRun <= MOST_CALLS, true);
        check.done();
    }

    private void compare(int run) {
        heap = new CountedHeap();
        model = new Model();
        calls = 0;
        growing = run % 2 == 0;
        for (int t = 0; t < 4; t++) {
            changeType();
        }
        if (growing) {
            fill(1 + below(24));
        }
        int limit = 20 + below(MOST_CALLS - CALLS_OF_LOOK - CALLS_OF_STEP - 20);
        while (calls < limit && check.allAsDue()) {
            check.about("made-up run " + run + ", behind call " + calls);
            callBoth();
            lookAtOne();
        }
        lookAtAll();
        givenBlocks += model.given();
        longestRun = Math.max(longestRun, calls);
    }

    /** So many blocks, each pointing to the one before. */
    private void fill(int length) {
        int w = below(6);
        typeBoth(0, 6, 1 << w | below(64));
        clearBoth();
        addBoth(9, 5, 0, 0);
        addBoth(10, 24 + w, 4, 0);
        addBoth(10, 4, 5, 0);
        addBoth(7, 0, 0, 0);
        runBoth(4 * length);
    }

    private void callBoth() {
        int what = below(100);
        if (what < 60) {
            replaceProgram(1 + below(3));
            runBoth(3);
        } else if (what < 65) {
            replaceProgram(below(45));
            runBoth(below(520) - 10);
        } else if (what < 75) {
            addSome();
        } else if (what < 80) {
            runBoth(below(30));
        } else if (what < 85) {
            startBoth(below(44) - 2);
        } else if (what < 90) {
            setBoth(below(6) - 1, number());
        } else if (what < 95) {
            changeType();
        } else {
            collectBoth();
        }
    }

    private void replaceProgram(int length) {
        clearBoth();
        for (int k = 0; k < length; k++) {
            addSome();
        }
    }

    private void changeType() {
        int t = below(20) == 0 ? below(8) - 2 : below(4);
        int size = below(20) == 0 ? below(10) - 1 : 1 + below(6);
        int map = below(20) == 0 ? below(200) - 50 : below(1 << Math.max(1, Math.min(6, size)));
        typeBoth(t, size, map);
    }

    private void addSome() {
        int op = OPS[below(OPS.length)];
        boolean grow = growing && op >= 9 && op <= 11 && below(40) != 0;
        int x = grow ? sparePointer() : number(NUMBERS[op].charAt(0));
        addBoth(op, x, number(NUMBERS[op].charAt(1)), number(NUMBERS[op].charAt(2)));
    }

    private void typeBoth(int t, int size, int map) {
        calls++;
        check.is("type(" + t + ", " + size + ", " + map + ")", heap.type(t, size, map), model.type(t, size, map));
    }

    private void addBoth(int op, int x, int y, int z) {
        calls++;
        check.is("add(" + op + ", " + x + ", " + y + ", " + z + ")", heap.add(op, x, y, z),
            model.addSound(op, x, y, z));
    }

    private void clearBoth() {
        calls++;
        check.is("clear()", heap.clear(), model.clear());
    }

    private void startBoth(int p) {
        calls++;
        check.is("start(" + p + ")", heap.start(p), model.start(p));
    }

    private void runBoth(int n) {
        calls++;
        String due = model.outcome(n);
        fullHeaps += due.equals("UnsupportedOperationException") && model.blocks() == 24 ? 1 : 0;
        check.is("run(" + n + ")", Check.outcome(heap, n), due);
    }

    private void setBoth(int i, int v) {
        calls++;
        check.is("set(" + i + ", " + v + ")", heap.set(i, v), model.set(i, v));
    }

    private void collectBoth() {
        calls++;
        int due = model.collect();
        lostBlocks += due;
        check.is("collect()", heap.collect(), due);
    }

    private int number(char kind) {
        switch (kind) {
            case 'i':
                return operand(false);
            case 'p':
                return operand(true);
            case 'l':
                return below(3) == 0 ? below(40) : below(4);
            case 't':
                return below(4);
            default:
                return number();
        }
    }

    /** Mostly one without a fault, as things stand, so that the runs go on. */
    private int operand(boolean pointer) {
        int operand = anyOperand();
        for (int tries = below(12); tries > 0 && !model.isSound(operand, pointer); tries--) {
            operand = anyOperand();
        }
        return operand;
    }

    private int sparePointer() {
        int operand = anyOperand();
        for (int tries = 40; tries > 0 && !model.isSpare(operand); tries--) {
            operand = anyOperand();
        }
        return operand;
    }

    private int anyOperand() {
        return below(4) == 0 ? below(8) : 16 + below(32);
    }

    private int number() {
        int[] edges = {Integer.MIN_VALUE, -1, 0, 1, Integer.MAX_VALUE};
        return below(2) == 0 ? edges[below(edges.length)] : below(2000000) * 1000 - 1000000000;
    }

    /** Questions may not disturb what comes behind them either. */
    private void lookAtOne() {
        switch (below(6)) {
            case 0:
                lookAtCount(below(26));
                break;
            case 1:
                lookAtWord(below(26), below(8) - 1);
                break;
            case 2:
                lookAtRoot(below(6) - 1);
                break;
            case 3:
                lookAtFrame(below(6) - 1);
                break;
            case 4:
                lookAtLost();
                break;
            default:
                lookAtNext();
                break;
        }
    }

    private void lookAtAll() {
        lookAtNext();
        lookAtLost();
        calls += 3;
        check.is("open()", heap.open(), model.open());
        check.is("blocks()", heap.blocks(), model.blocks());
        check.is("given()", heap.given(), model.given());
        for (int i = -1; i <= 4; i++) {
            lookAtFrame(i);
            lookAtRoot(i);
        }
        for (int b = 0; b <= 25; b++) {
            lookAtCount(b);
            calls++;
            check.is("typeOf", heap.typeOf(b), model.typeOf(b));
            for (int w = -1; w <= 6; w++) {
                lookAtWord(b, w);
            }
        }
    }

    private void lookAtNext() {
        calls++;
        check.is("next()", heap.next(), model.next());
    }

    private void lookAtLost() {
        calls++;
        check.is("lost()", heap.lost(), model.lost());
    }

    private void lookAtFrame(int i) {
        calls++;
        check.is("frame(" + i + ")", heap.frame(i), model.frame(i));
    }

    private void lookAtRoot(int i) {
        calls++;
        check.is("root(" + i + ")", heap.root(i), model.root(i));
    }

    private void lookAtCount(int b) {
        calls++;
        check.is("count(" + b + ")", heap.count(b), model.count(b));
    }

    private void lookAtWord(int b, int w) {
        calls++;
        check.is("word(" + b + ", " + w + ")", heap.word(b, w), model.word(b, w));
    }

    private int below(int bound) {
        seed = seed * 6364136223846793005L + 1442695040888963407L;
        return (int) ((seed >>> 33) % bound);
    }
}

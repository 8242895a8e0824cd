/** Long made-up runs of calls, the class beside the plain model. The runs are the same at every start. */
public final class ModelTest {
    private static final int RUNS = 600;
    private static final int CALLS = 200;

    // By op: 'i' an int, 'p' a pointer, 'l' a place, 't' a type, '-' any number.
    private static final String[] NUMBERS = {
        "---", "i--", "ii-", "iii", "iii", "iii", "iii", "l--", "li-", "pt-", "pp-", "p--", "ipp", "l--", "---"};
    // Ops that fill and tangle the heap come more often than the rest.
    private static final int[] OPS = {
        0, 1, 2, 3, 4, 5, 6, 7, 8, 12, 13, 14, 9, 9, 9, 9, 9, 9, 9, 9, 9, 9, 9, 9, 10, 10, 10, 10, 10, 10, 10, 10, 11};

    private final Check check = new Check();
    private long seed = 20261116L;
    private CountedHeap heap = new CountedHeap();
    private Model model = new Model();
    // In every other run pointers are mostly written where no block is given back by it, so that the heap fills up.
    private boolean growing = false;
    private int fullHeaps = 0;
    private int lostBlocks = 0;
    private int givenBlocks = 0;

    public static void main(String[] args) {
        new ModelTest().compareAll();
    }

    private void compareAll() {
        for (int run = 0; run < RUNS && check.allAsDue(); run++) {
            compare(run);
        }
        check.about("the runs come to full heaps, lost blocks and blocks given back");
        check.is("full heaps, " + fullHeaps, fullHeaps > 100, true);
        check.is("lost blocks, " + lostBlocks, lostBlocks > 500, true);
        check.is("blocks given back, " + givenBlocks, givenBlocks > 10000, true);
        check.done();
    }

    private void compare(int run) {
        heap = new CountedHeap();
        model = new Model();
        growing = run % 2 == 0;
        for (int t = 0; t < 4; t++) {
            changeType();
        }
        for (int call = 0; call < CALLS && check.allAsDue(); call++) {
            check.about("made-up run " + run + ", call " + call);
            callBoth();
            lookAtAll();
        }
        givenBlocks += model.given();
    }

    private void callBoth() {
        int what = below(100);
        if (what < 60) {
            replaceProgram(1 + below(3));
            runBoth(3);
        } else if (what < 70) {
            replaceProgram(below(45));
            runBoth(below(520) - 10);
        } else if (what < 80) {
            addBoth();
        } else if (what < 85) {
            runBoth(below(30));
        } else if (what < 89) {
            int p = below(44) - 2;
            check.is("start(" + p + ")", heap.start(p), model.start(p));
        } else if (what < 93) {
            int i = below(6) - 1;
            int v = number();
            check.is("set(" + i + ", " + v + ")", heap.set(i, v), model.set(i, v));
        } else if (what < 97) {
            changeType();
        } else {
            int due = model.collect();
            lostBlocks += due;
            check.is("collect()", heap.collect(), due);
        }
    }

    private void replaceProgram(int length) {
        check.is("clear()", heap.clear(), model.clear());
        for (int k = 0; k < length; k++) {
            addBoth();
        }
    }

    private void runBoth(int n) {
        String due = model.outcome(n);
        fullHeaps += due.equals("UnsupportedOperationException") && model.blocks() == 24 ? 1 : 0;
        check.is("run(" + n + ")", Check.outcome(heap, n), due);
    }

    private void changeType() {
        int t = below(20) == 0 ? below(8) - 2 : below(4);
        int size = below(20) == 0 ? below(10) - 1 : 1 + below(6);
        int map = below(20) == 0 ? below(200) - 50 : below(1 << Math.max(1, Math.min(6, size)));
        check.is("type(" + t + ", " + size + ", " + map + ")", heap.type(t, size, map), model.type(t, size, map));
    }

    private void addBoth() {
        int op = OPS[below(OPS.length)];
        boolean grow = growing && op >= 9 && op <= 11 && below(40) != 0;
        int x = grow ? sparePointer() : number(NUMBERS[op].charAt(0));
        int y = number(NUMBERS[op].charAt(1));
        int z = number(NUMBERS[op].charAt(2));
        check.is("add(" + op + ", " + x + ", " + y + ", " + z + ")", heap.add(op, x, y, z),
            model.addSound(op, x, y, z));
    }

    private int number(char kind) {
        switch (kind) {
            case 'i':
                return operand(false);
            case 'p':
                return operand(true);
            case 'l':
                return below(3) == 0 ? below(40) : below(4);
            case 't':
                return below(4);
            default:
                return number();
        }
    }

    /** Mostly one without a fault, as things stand, so that the runs go on. */
    private int operand(boolean pointer) {
        int operand = anyOperand();
        for (int tries = below(12); tries > 0 && !model.isSound(operand, pointer); tries--) {
            operand = anyOperand();
        }
        return operand;
    }

    private int sparePointer() {
        int operand = anyOperand();
        for (int tries = 40; tries > 0 && !model.isSpare(operand); tries--) {
            operand = anyOperand();
        }
        return operand;
    }

    private int anyOperand() {
        return below(4) == 0 ? below(8) : 16 + below(32);
    }

    private int number() {
        int[] edges = {Integer.MIN_VALUE, -1, 0, 1, Integer.MAX_VALUE};
        return below(2) == 0 ? edges[below(edges.length)] : below(2000000) * 1000 - 1000000000;
    }

    private void lookAtAll() {
        check.is("next()", heap.next(), model.next());
        check.is("open()", heap.open(), model.open());
        check.is("blocks()", heap.blocks(), model.blocks());
        check.is("given()", heap.given(), model.given());
        check.is("lost()", heap.lost(), model.lost());
        for (int i = -1; i <= 4; i++) {
            check.is("frame", heap.frame(i), model.frame(i));
            check.is("root", heap.root(i), model.root(i));
        }
        for (int b = 0; b <= 25; b++) {
            check.is("count", heap.count(b), model.count(b));
            check.is("typeOf", heap.typeOf(b), model.typeOf(b));
            for (int w = -1; w <= 6; w++) {
                check.is("word", heap.word(b, w), model.word(b, w));
            }
        }
    }

    private int below(int bound) {
        seed = seed * 6364136223846793005L + 1442695040888963407L;
        return (int) ((seed >>> 33) % bound);
    }
}

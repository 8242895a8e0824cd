/** Each op, its faults and their order, and how pointers are counted ("Terms" of the document). */
public final class InstructionsTest extends Bench {
    public static void main(String[] args) {
        numbersAndCopies();
        arithmetic();
        less();
        jumps();
        same();
        calls();
        wordsThroughEachPointer();
        newBlocksAreEmpty();
        newBlockBeforeTheOldGoes();
        fullHeap();
        copyOntoItself();
        stepAlongAChain();
        givingBackGoesOn();
        sharedBlocksStay();
        faultsOfOneOperand();
        kindsOfEachOp();
        faultsInOrder();
        faultsChangeNothing();
        CHECK.done();
    }

    private static void numbersAndCopies() {
        CHECK.about("ops 1 and 2");
        CountedHeap heap = new CountedHeap();
        doAll(heap, i(1, 0, LOW, 0), i(1, 1, HIGH, 0), i(1, 2, 48, 0), i(2, 3, 0, 0), i(2, 0, 1, 0), i(2, 1, 1, 0));
        CHECK.is("frame(0)", heap.frame(0), HIGH);
        CHECK.is("frame(1)", heap.frame(1), HIGH);
        CHECK.is("frame(2)", heap.frame(2), 48);
        CHECK.is("frame(3)", heap.frame(3), LOW);
    }

    private static void arithmetic() {
        CHECK.about("ops 3, 4 and 5");
        int[] values = {LOW, LOW + 1, -65537, -7, -1, 0, 1, 5, 46341, 65536, HIGH};
        for (int a : values) {
            for (int b : values) {
                CountedHeap heap = new CountedHeap();
                heap.set(1, a);
                heap.set(2, b);
                doAll(heap, i(3, 0, 1, 2));
                CHECK.is(a + " plus " + b, heap.frame(0), a + b);
                doAll(heap, i(4, 0, 1, 2));
                CHECK.is(a + " minus " + b, heap.frame(0), a - b);
                doAll(heap, i(5, 0, 1, 2));
                CHECK.is(a + " times " + b, heap.frame(0), a * b);
                doAll(heap, i(4, 1, 2, 1));
                CHECK.is("x is also z", heap.frame(1), b - a);
                CHECK.is("y stays", heap.frame(2), b);
            }
        }
    }

    private static void less() {
        CHECK.about("op 6");
        int[] values = {LOW, -1, 0, 1, HIGH};
        for (int a : values) {
            for (int b : values) {
                CountedHeap heap = new CountedHeap();
                heap.set(0, 9);
                heap.set(1, a);
                heap.set(2, b);
                doAll(heap, i(6, 0, 1, 2));
                CHECK.is(a + " less than " + b, heap.frame(0), a < b ? 1 : 0);
            }
        }
    }

    private static void jumps() {
        CHECK.about("ops 7 and 8");
        CountedHeap heap = new CountedHeap();
        doAll(heap, i(7, 39, 0, 0));
        CHECK.is("next", heap.next(), 39);
        for (int value : new int[] {LOW, -1, 0, 1, 2, HIGH}) {
            heap.set(3, value);
            doAll(heap, i(8, 7, 3, 0));
            CHECK.is("next if " + value, heap.next(), value != 0 ? 7 : 1);
        }
        CHECK.is("open", heap.open(), 0);
    }

    private static void same() {
        CHECK.about("op 12");
        CountedHeap heap = new CountedHeap();
        heap.type(0, 2, 2);
        doAll(heap, i(9, 4, 0, 0), i(10, 5, 4, 0), i(9, 6, 0, 0), i(10, 17, 6, 0));
        int[][] due = {{4, 5, 1}, {4, 4, 1}, {4, 6, 0}, {4, 7, 0}, {7, 4, 0}, {7, 7, 1}, {17, 6, 1}, {33, 7, 1},
            {17, 33, 0}, {25, 17, 1}};
        for (int[] row : due) {
            heap.set(0, 5);
            doAll(heap, i(12, 0, row[0], row[1]));
            CHECK.is("same " + row[0] + ", " + row[1], heap.frame(0), row[2]);
        }
        doAll(heap, i(12, 16, 17, 6));
        CHECK.is("into a word", heap.word(1, 0), 1);
        CHECK.is("counts stay", heap.count(1) == 2 && heap.count(2) == 2, true);
    }

    private static void calls() {
        CHECK.about("ops 13 and 14");
        CountedHeap heap = new CountedHeap();
        replace(heap, i(13, 2, 0, 0), i(0, 0, 0, 0), i(13, 4, 0, 0), i(14, 0, 0, 0), i(14, 0, 0, 0));
        int[] places = {2, 4, 3, 1, 1};
        int[] open = {1, 2, 1, 0, 0};
        for (int k = 0; k < 5; k++) {
            CHECK.runs(heap, 1, 1);
            CHECK.is("next", heap.next(), places[k]);
            CHECK.is("open", heap.open(), open[k]);
        }
        replace(heap, i(13, 0, 0, 0));
        CHECK.runs(heap, 8, 8);
        CHECK.is("open", heap.open(), 8);
        CHECK.faults(heap, 1, UNSUPPORTED);
        CHECK.is("open", heap.open(), 8);
        CHECK.is("next", heap.next(), 0);
        fault(heap, i(14, 0, 0, 0), STATE);
        CHECK.is("open", heap.open(), 0);
        eightReturns();
    }

    private static void eightReturns() {
        CountedHeap heap = new CountedHeap();
        for (int k = 0; k < 8; k++) {
            heap.add(13, k < 7 ? 2 * k + 2 : 16, 0, 0);
            heap.add(14, 0, 0, 0);
        }
        heap.add(14, 0, 0, 0);
        CHECK.runs(heap, 8, 8);
        CHECK.is("open", heap.open(), 8);
        for (int k = 7; k >= 0; k--) {
            CHECK.runs(heap, 1, 1);
            CHECK.is("the last put on comes first", heap.next(), 2 * k + 1);
            CHECK.is("open", heap.open(), k);
        }
        CHECK.faults(heap, 1, STATE);
    }

    private static void wordsThroughEachPointer() {
        CHECK.about("operands 16 .. 47");
        CountedHeap heap = new CountedHeap();
        heap.type(2, 6, 0);
        for (int k = 0; k < 4; k++) {
            doAll(heap, i(9, 4 + k, 2, 0));
            for (int w = 0; w < 6; w++) {
                doAll(heap, i(1, 16 + 8 * k + w, 100 * k + w + 1, 0));
            }
        }
        for (int k = 0; k < 4; k++) {
            for (int w = 0; w < 6; w++) {
                CHECK.is("word", heap.word(k + 1, w), 100 * k + w + 1);
                doAll(heap, i(2, 0, 16 + 8 * k + w, 0));
                CHECK.is("read", heap.frame(0), 100 * k + w + 1);
            }
            replace(heap, i(1, 16 + 8 * k + 6, 1, 0), i(1, 16 + 8 * k + 7, 1, 0));
            CHECK.faults(heap, 1, INDEX);
            heap.start(1);
            CHECK.faults(heap, 1, INDEX);
        }
        doAll(heap, i(5, 16, 25, 34));
        CHECK.is("102 times 203", heap.word(1, 0), 102 * 203);
    }

    private static void newBlocksAreEmpty() {
        CHECK.about("op 9");
        CountedHeap heap = new CountedHeap();
        heap.type(1, 6, 21);
        doAll(heap, i(9, 4, 1, 0), i(9, 16, 1, 0), i(10, 18, 4, 0), i(1, 17, 5, 0), i(1, 21, 6, 0),
            i(11, 18, 0, 0), i(11, 4, 0, 0));
        CHECK.is("blocks", heap.blocks(), 0);
        heap.type(1, 6, 42);
        doAll(heap, i(9, 4, 1, 0));
        CHECK.is("root(0)", heap.root(0), 1);
        for (int w = 0; w < 6; w++) {
            CHECK.is("word(1, " + w + ")", heap.word(1, w), 0);
        }
        CHECK.is("count(1)", heap.count(1), 1);
    }

    private static void newBlockBeforeTheOldGoes() {
        CHECK.about("op 9 over the last pointer to a block");
        CountedHeap heap = new CountedHeap();
        doAll(heap, i(9, 4, 0, 0), i(9, 4, 1, 0));
        CHECK.is("root(0)", heap.root(0), 2);
        CHECK.is("count(1)", heap.count(1), -1);
        CHECK.is("typeOf(2)", heap.typeOf(2), 1);
        CHECK.is("given", heap.given(), 1);
        doAll(heap, i(9, 4, 0, 0));
        CHECK.is("root(0)", heap.root(0), 1);
        CHECK.is("blocks", heap.blocks(), 1);
    }

    private static void fullHeap() {
        CHECK.about("24 blocks");
        fault(chain(24), i(9, 4, 0, 0), UNSUPPORTED);
        fault(chain(24), i(9, 16, 0, 0), UNSUPPORTED);
        fault(chain(24), i(9, 0, 0, 0), ARGUMENT);
        fault(chain(24), i(9, 32, 0, 0), STATE);
        fault(chain(24), i(9, 23, 0, 0), INDEX);
        CountedHeap heap = chain(24);
        CHECK.is("blocks", heap.blocks(), 24);
        CHECK.is("given", heap.given(), 0);
        doAll(heap, i(11, 5, 0, 0), i(10, 4, 16, 0));
        CHECK.is("blocks", heap.blocks(), 23);
        doAll(heap, i(9, 5, 1, 0));
        CHECK.is("root(1)", heap.root(1), 24);
        fault(heap, i(9, 5, 1, 0), UNSUPPORTED);
        CHECK.is("root(1)", heap.root(1), 24);
    }

    private static void copyOntoItself() {
        CHECK.about("op 10 onto itself");
        CountedHeap heap = new CountedHeap();
        heap.type(0, 1, 1);
        doAll(heap, i(9, 4, 0, 0), i(10, 4, 4, 0));
        CHECK.is("root(0)", heap.root(0), 1);
        CHECK.is("count(1)", heap.count(1), 1);
        CHECK.is("given", heap.given(), 0);
        doAll(heap, i(10, 16, 4, 0), i(10, 16, 16, 0), i(10, 4, 16, 0));
        CHECK.is("count(1)", heap.count(1), 2);
        doAll(heap, i(11, 16, 0, 0));
        CHECK.is("count(1)", heap.count(1), 1);
        doAll(heap, i(10, 5, 6, 0), i(11, 6, 0, 0), i(10, 4, 6, 0));
        CHECK.is("nil over the last pointer", heap.blocks(), 0);
    }

    private static void stepAlongAChain() {
        CHECK.about("op 10 along a chain");
        CountedHeap heap = chain(3);
        doAll(heap, i(11, 5, 0, 0), i(10, 4, 16, 0));
        CHECK.is("root(0)", heap.root(0), 2);
        CHECK.is("count(3)", heap.count(3), -1);
        CHECK.is("count(2)", heap.count(2), 1);
        doAll(heap, i(10, 4, 16, 0));
        CHECK.is("root(0)", heap.root(0), 1);
        doAll(heap, i(10, 4, 16, 0));
        CHECK.is("root(0)", heap.root(0), 0);
        CHECK.is("given", heap.given(), 3);
    }

    private static void givingBackGoesOn() {
        CHECK.about("giving back goes on");
        for (int length = 1; length <= 24; length++) {
            CountedHeap heap = chain(length);
            doAll(heap, i(11, 5, 0, 0));
            CHECK.is("blocks", heap.blocks(), length);
            doAll(heap, i(11, 4, 0, 0));
            CHECK.is("blocks", heap.blocks(), 0);
            CHECK.is("given", heap.given(), length);
            doAll(heap, i(9, 4, 0, 0));
            CHECK.is("root(0)", heap.root(0), 1);
        }
    }

    private static void sharedBlocksStay() {
        CHECK.about("what others point to stays");
        CountedHeap heap = new CountedHeap();
        heap.type(0, 6, 55);
        doAll(heap, i(9, 4, 0, 0), i(9, 5, 0, 0), i(10, 16, 5, 0), i(10, 17, 5, 0), i(10, 18, 5, 0),
            i(1, 19, 2, 0), i(9, 20, 0, 0), i(10, 21, 20, 0));
        CHECK.is("count(2)", heap.count(2), 4);
        CHECK.is("count(3)", heap.count(3), 2);
        doAll(heap, i(11, 4, 0, 0));
        CHECK.is("count(1)", heap.count(1), -1);
        CHECK.is("an int word is no pointer", heap.count(2), 1);
        CHECK.is("count(3)", heap.count(3), -1);
        CHECK.is("given", heap.given(), 2);
    }

    private static void faultsOfOneOperand() {
        CHECK.about("faults of one operand");
        CountedHeap heap = new CountedHeap();
        heap.type(0, 2, 2);
        fault(heap, i(1, 16, 0, 0), STATE);
        fault(heap, i(1, 23, 0, 0), STATE);
        fault(heap, i(11, 40, 0, 0), STATE);
        doAll(heap, i(9, 4, 0, 0));
        fault(heap, i(1, 18, 0, 0), INDEX);
        fault(heap, i(11, 18, 0, 0), INDEX);
        fault(heap, i(1, 17, 0, 0), ARGUMENT);
        fault(heap, i(11, 16, 0, 0), ARGUMENT);
        fault(heap, i(1, 24, 0, 0), STATE);
        doAll(heap, i(1, 16, 4, 0), i(10, 17, 4, 0));
        CHECK.is("word(1, 0)", heap.word(1, 0), 4);
        CHECK.is("word(1, 1)", heap.word(1, 1), 1);
    }

    // By op: 'i' an int, 'p' a pointer, '-' no operand.
    private static final String[] KINDS = {
        "---", "i--", "ii-", "iii", "iii", "iii", "iii", "---", "-i-", "p--", "pp-", "p--", "ipp", "---", "---"};

    private static void kindsOfEachOp() {
        CHECK.about("kinds of each op's operands");
        for (int op = 0; op <= 12; op++) {
            for (int at = 0; at < 3; at++) {
                char kind = KINDS[op].charAt(at);
                if (kind != '-') {
                    fault(new CountedHeap(), withOperand(op, at, kind == 'i' ? 7 : 3), ARGUMENT);
                    fault(new CountedHeap(), withOperand(op, at, 31), STATE);
                    fault(withBlockAtP1(), withOperand(op, at, 31), INDEX);
                    fault(withBlockAtP1(), withOperand(op, at, kind == 'i' ? 25 : 24), ARGUMENT);
                    doAll(withBlockAtP1(), withOperand(op, at, kind == 'i' ? 24 : 25));
                }
            }
        }
    }

    private static CountedHeap withBlockAtP1() {
        CountedHeap heap = new CountedHeap();
        heap.type(0, 2, 2);
        doAll(heap, i(9, 5, 0, 0));
        return heap;
    }

    private static int[] withOperand(int op, int at, int operand) {
        int[] instruction = {op, 0, 0, 0};
        for (int k = 0; k < 3; k++) {
            instruction[k + 1] = KINDS[op].charAt(k) == 'p' ? 4 : 0;
        }
        instruction[at + 1] = operand;
        return instruction;
    }

    private static void faultsInOrder() {
        CHECK.about("the order of faults");
        // 16 .. 23 are behind the nil P0: state; 26 .. 31 are no words of P1's block: index; 4 and 25 are pointers.
        int[] operands = {16, 26, 4, 0};
        Class<?>[] faults = {STATE, INDEX, ARGUMENT, null};
        for (int x = 0; x < 4; x++) {
            for (int y = 0; y < 4; y++) {
                for (int z = 0; z < 4; z++) {
                    Class<?> due = faults[x] != null ? faults[x] : faults[y] != null ? faults[y] : faults[z];
                    if (due != null) {
                        fault(withBlockAtP1(), i(3, operands[x], operands[y], operands[z]), due);
                    }
                }
            }
        }
        CountedHeap heap = withBlockAtP1();
        fault(heap, i(12, 0, 0, 16), ARGUMENT);
        fault(heap, i(10, 0, 16, 0), ARGUMENT);
        fault(heap, i(10, 16, 0, 0), STATE);
        fault(heap, i(8, 0, 25, 0), ARGUMENT);
    }

    private static void faultsChangeNothing() {
        CHECK.about("a fault changes nothing");
        CountedHeap heap = withBlockAtP1();
        heap.set(0, 7);
        fault(heap, i(2, 0, 16, 0), STATE);
        fault(heap, i(3, 0, 1, 26), INDEX);
        fault(heap, i(12, 0, 5, 1), ARGUMENT);
        fault(heap, i(10, 5, 16, 0), STATE);
        fault(heap, i(10, 5, 24, 0), ARGUMENT);
        fault(heap, i(9, 24, 0, 0), ARGUMENT);
        fault(heap, i(9, 16, 0, 0), STATE);
        CHECK.is("frame(0)", heap.frame(0), 7);
        CHECK.is("root(1)", heap.root(1), 1);
        CHECK.is("count(1)", heap.count(1), 1);
        CHECK.is("blocks", heap.blocks(), 1);
        CHECK.is("given", heap.given(), 0);
        replace(heap, i(1, 17, 3, 0));
        CHECK.faults(heap, 5, STATE);
        doAll(heap, i(9, 4, 0, 0));
        replace(heap, i(1, 16, 3, 0));
        CHECK.runs(heap, 5, 1);
        CHECK.is("the mended one is done", heap.word(2, 0), 3);
    }
}

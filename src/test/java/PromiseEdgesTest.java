/** The edges that the promises of the document name, one test for each of their sentences. */
public final class PromiseEdgesTest extends Bench {
    public static void main(String[] args) {
        newTypes();
        newObjectIsEmpty();
        typeOutOfRange();
        sizeOutOfRange();
        bitsFromSizeOn();
        blockOfThisType();
        refusedTypeChangesNothing();
        unknownOp();
        noOperand();
        noPlace();
        noType();
        fullProgram();
        firstRefusalThatHolds();
        unusedNumbers();
        refusedAddChangesNothing();
        clearOfNoneAndOfForty();
        clearGoesToTheBeginning();
        startAtEitherEnd();
        startEmptiesTheStack();
        startRefused();
        runOfNoneAndOfMost();
        runOfAnotherNumber();
        runBehindAHalt();
        runWithNoInstruction();
        runThrowsWhatAnInstructionThrows();
        nextPlaces();
        openPlaces();
        frameOutOfRange();
        setOutOfRange();
        rootNilAndOutOfRange();
        blocksFromNoneToAll();
        countOfNone();
        typeOfNone();
        wordOfAnIntAndOfAPointer();
        noSuchBlockOrWord();
        givenSinceTheBeginning();
        lostFromNoneToAll();
        lostAlongPointersOnly();
        collectNoneAndAll();
        collectTogether();
        collectTakesOffInOthers();
        collectTakesOffForEachWord();
        questionsChangeNothing();
        CHECK.done();
    }

    private static void newTypes() {
        CHECK.about("Promise 1: All types have size 1 and map 0");
        for (int t = 0; t < 4; t++) {
            CountedHeap heap = new CountedHeap();
            doAll(heap, i(9, 4, t, 0), i(1, 16, 3, 0));
            CHECK.is("word 0 is an int", heap.word(1, 0), 3);
            CHECK.is("there is no word 1", heap.word(1, 1), NO_WORD);
            fault(heap, i(11, 16, 0, 0), ARGUMENT);
            fault(heap, i(1, 17, 3, 0), INDEX);
        }
    }

    private static void newObjectIsEmpty() {
        CHECK.about("Promise 1: no instructions; ints 0, pointers nil, no blocks, the next instruction is 0, "
            + "the stack is empty");
        CountedHeap heap = new CountedHeap();
        CHECK.is("picture", picture(heap),
            "next 0 open 0 blocks 0 given 0 lost 0 F0 0 P0 0 F1 0 P1 0 F2 0 P2 0 F3 0 P3 0");
        CHECK.runs(heap, 500, 0);
        CHECK.is("clear", heap.clear(), 0);
        fault(heap, i(14, 0, 0, 0), STATE);
        replace(heap);
        CHECK.is("the first place", heap.add(0, 0, 0, 0), 0);
    }

    private static void typeOutOfRange() {
        CHECK.about("Promise 2: False if t is not 0 .. 3");
        CountedHeap heap = new CountedHeap();
        for (int t = -5; t <= 9; t++) {
            CHECK.is("type(" + t + ", 6, 63)", heap.type(t, 6, 63), t >= 0 && t <= 3);
        }
        CHECK.is("the lowest", heap.type(LOW, 1, 0), false);
        CHECK.is("the highest", heap.type(HIGH, 1, 0), false);
    }

    private static void sizeOutOfRange() {
        CHECK.about("Promise 2: size not 1 .. 6");
        CountedHeap heap = new CountedHeap();
        for (int size = -40; size <= 70; size++) {
            CHECK.is("type(0, " + size + ", 0)", heap.type(0, size, 0), size >= 1 && size <= 6);
        }
        CHECK.is("the lowest", heap.type(0, LOW, 0), false);
        CHECK.is("the highest", heap.type(0, HIGH, 0), false);
        CHECK.is("a map that fits no size", heap.type(0, 0, 1), false);
        CHECK.is("seven words", heap.type(0, 7, 127), false);
    }

    private static void bitsFromSizeOn() {
        CHECK.about("Promise 2: map has bits from size on (or is below 0)");
        int[] ends = {1, 3, 7, 15, 31, 63};
        for (int size = 1; size <= 6; size++) {
            CountedHeap heap = new CountedHeap();
            for (int map = -70; map <= 140; map++) {
                CHECK.is("type(1, " + size + ", " + map + ")", heap.type(1, size, map),
                    map >= 0 && map <= ends[size - 1]);
            }
            for (int bit = 0; bit < 32; bit++) {
                CHECK.is("bit " + bit + " of " + size, heap.type(1, size, 1 << bit), bit < size);
            }
            CHECK.is("the highest", heap.type(1, size, HIGH), false);
        }
    }

    private static void blockOfThisType() {
        CHECK.about("Promise 2: or there is a block of this type");
        for (int t = 0; t < 4; t++) {
            CountedHeap heap = new CountedHeap();
            CHECK.is("before", heap.type(t, 1, 1), true);
            doAll(heap, i(9, 4, t, 0), i(10, 16, 4, 0));
            for (int other = 0; other < 4; other++) {
                CHECK.is("type(" + other + ", 2, 1)", heap.type(other, 2, 1), other != t);
            }
            CHECK.is("the same size and map", heap.type(t, 1, 1), false);
            doAll(heap, i(11, 4, 0, 0));
            CHECK.is("the block is lost", heap.type(t, 2, 1), false);
            CHECK.is("collect", heap.collect(), 1);
            CHECK.is("the block is given back", heap.type(t, 2, 1), true);
        }
        CountedHeap full = chain(23);
        doAll(full, i(9, 6, 3, 0));
        CHECK.is("block 24 is of type 3", full.type(3, 2, 0), false);
        doAll(full, i(11, 6, 0, 0));
        CHECK.is("no block 24", full.type(3, 2, 0), true);
    }

    private static void refusedTypeChangesNothing() {
        CHECK.about("Promise 2, refused: changes nothing");
        int[][] refused = {{-1, 1, 0}, {4, 1, 0}, {2, 0, 0}, {2, 7, 0}, {2, 1, 2}, {2, 3, 8}, {2, 2, -1}, {2, 6, 64}};
        CountedHeap heap = new CountedHeap();
        for (int t = 0; t < 4; t++) {
            CHECK.is("type", heap.type(t, 2, 2), true);
        }
        for (int[] call : refused) {
            CHECK.is("refused", heap.type(call[0], call[1], call[2]), false);
        }
        for (int t = 0; t < 4; t++) {
            doAll(heap, i(9, 4, t, 0), i(10, 17, 4, 0), i(1, 16, 5, 0));
            CHECK.is("refused", heap.type(t, 6, 0), false);
            CHECK.is("an int", heap.word(heap.root(0), 0), 5);
            CHECK.is("no third word", heap.word(heap.root(0), 2), NO_WORD);
            doAll(heap, i(11, 17, 0, 0), i(9, 4, t, 0), i(10, 17, 4, 0), i(11, 17, 0, 0), i(11, 4, 0, 0));
        }
        CHECK.is("blocks", heap.blocks(), 0);
    }

    private static void unknownOp() {
        CHECK.about("Promise 3: -1 op is not 0 .. 14");
        CountedHeap heap = new CountedHeap();
        for (int op = -20; op <= 40; op++) {
            heap.clear();
            CHECK.is("add(" + op + ", 0, 0, 0)", heap.add(op, 0, 0, 0), op >= 0 && op <= 14 ? 0 : -1);
        }
        CHECK.is("the lowest", heap.add(LOW, 0, 0, 0), -1);
        CHECK.is("the highest", heap.add(HIGH, 0, 0, 0), -1);
    }

    // By op: 'o' an operand, 'p' a place, 't' a type, '-' a number that may be any.
    private static final String[] NUMBERS = {
        "---", "o--", "oo-", "ooo", "ooo", "ooo", "ooo", "p--", "po-", "ot-", "oo-", "o--", "ooo", "p--", "---"};

    /** Each op that has this kind of number, with each of the numbers there and 0 elsewhere. */
    private static void addEach(char kind, int[] numbers, boolean taken) {
        for (int op = 0; op <= 14; op++) {
            CountedHeap heap = new CountedHeap();
            for (int at = 0; at < 3; at++) {
                for (int k = 0; NUMBERS[op].charAt(at) == kind && k < numbers.length; k++) {
                    int[] n = new int[3];
                    n[at] = numbers[k];
                    heap.clear();
                    CHECK.is("add(" + op + ", " + n[0] + ", " + n[1] + ", " + n[2] + ")",
                        heap.add(op, n[0], n[1], n[2]), taken ? 0 : -2);
                }
            }
        }
    }

    private static void noOperand() {
        CHECK.about("Promise 3: -2 a number that must be an operand is none");
        addEach('o', new int[] {0, 3, 4, 7, 16, 22, 23, 24, 31, 32, 39, 40, 47}, true);
        addEach('o', new int[] {LOW, -32, -16, -8, -1, 8, 9, 10, 11, 12, 13, 14, 15, 48, 49, 64, HIGH}, false);
    }

    private static void noPlace() {
        CHECK.about("Promise 3: -2 a place (x in 7, 8, 13) is not 0 .. 39");
        addEach('p', new int[] {0, 1, 8, 15, 38, 39}, true);
        addEach('p', new int[] {LOW, -40, -1, 40, 41, 47, HIGH}, false);
    }

    private static void noType() {
        CHECK.about("Promise 3: -2 a type (y in 9) is not 0 .. 3");
        addEach('t', new int[] {0, 1, 2, 3}, true);
        addEach('t', new int[] {LOW, -4, -1, 4, 5, 7, 16, HIGH}, false);
    }

    private static void fullProgram() {
        CHECK.about("Promise 3: -3 there are 40");
        for (int op = 0; op <= 14; op++) {
            CountedHeap heap = new CountedHeap();
            for (int place = 0; place < 40; place++) {
                CHECK.is("its place", heap.add(op, 0, 0, 0), place);
            }
            CHECK.is("the 41st", heap.add(op, 0, 0, 0), -3);
            CHECK.is("again", heap.add(op, 0, 0, 0), -3);
            CHECK.is("clear", heap.clear(), 40);
            CHECK.is("its place", heap.add(op, 0, 0, 0), 0);
        }
    }

    private static void firstRefusalThatHolds() {
        CHECK.about("Promise 3: Refused, first that holds");
        CountedHeap heap = new CountedHeap();
        CHECK.is("-1 and -2", heap.add(15, -1, -1, -1), -1);
        for (int place = 0; place < 40; place++) {
            heap.add(0, 0, 0, 0);
        }
        CHECK.is("-1 and -3", heap.add(-1, 0, 0, 0), -1);
        CHECK.is("-1, -2 and -3", heap.add(15, 48, 48, 48), -1);
        CHECK.is("-2 and -3, an operand", heap.add(3, 0, 0, 8), -2);
        CHECK.is("-2 and -3, a place", heap.add(13, 40, 0, 0), -2);
        CHECK.is("-2 and -3, a type", heap.add(9, 4, 4, 0), -2);
        CHECK.is("-3 alone", heap.add(9, 4, 3, 0), -3);
    }

    private static void unusedNumbers() {
        CHECK.about("Promise 3: Numbers that an op does not use may be any");
        addEach('-', new int[] {LOW, -1, 8, 15, 40, 48, HIGH}, true);
    }

    private static void refusedAddChangesNothing() {
        CHECK.about("Promise 3, refused: changes nothing");
        CountedHeap heap = program(i(1, 0, 5, 0), i(0, 0, 0, 0));
        CHECK.runs(heap, 1, 1);
        String before = picture(heap);
        CHECK.is("-1", heap.add(15, 0, 0, 0), -1);
        CHECK.is("-2", heap.add(1, 8, 0, 0), -2);
        CHECK.is("picture", picture(heap), before);
        CHECK.is("no place was taken", heap.add(1, 1, 6, 0), 2);
        for (int place = 3; place < 40; place++) {
            append(heap, i(1, 2, place, 0));
        }
        CHECK.is("-3", heap.add(0, 0, 0, 0), -3);
        CHECK.is("picture", picture(heap), before);
        CHECK.is("start", heap.start(2), true);
        CHECK.runs(heap, 500, 38);
        CHECK.is("the last one stands", heap.frame(2), 39);
    }

    private static void clearOfNoneAndOfForty() {
        CHECK.about("Promise 4: There are no instructions any more: how many there were");
        for (int length = 0; length <= 40; length++) {
            CountedHeap heap = new CountedHeap();
            for (int place = 0; place < length; place++) {
                heap.add(0, 0, 0, 0);
            }
            CHECK.is("clear", heap.clear(), length);
            CHECK.runs(heap, 1, 0);
            CHECK.is("clear again", heap.clear(), 0);
            CHECK.is("the first place is free", heap.add(0, 0, 0, 0), 0);
            CHECK.is("clear of one", heap.clear(), 1);
        }
    }

    private static void clearGoesToTheBeginning() {
        CHECK.about("Promise 4: the next instruction is 0, the stack is empty");
        CountedHeap heap = new CountedHeap();
        heap.start(39);
        CHECK.is("there were none", heap.clear(), 0);
        CHECK.is("next", heap.next(), 0);
        replace(heap, i(9, 4, 0, 0), i(1, 3, 4, 0), i(13, 2, 0, 0));
        CHECK.faults(heap, 500, UNSUPPORTED);
        CHECK.is("open", heap.open(), 8);
        CHECK.is("clear", heap.clear(), 3);
        CHECK.is("next", heap.next(), 0);
        CHECK.is("open", heap.open(), 0);
        CHECK.is("frame and heap stay", heap.frame(3) == 4 && heap.root(0) == 1 && heap.count(1) == 1, true);
        append(heap, i(14, 0, 0, 0));
        CHECK.faults(heap, 1, STATE);
    }

    private static void startAtEitherEnd() {
        CHECK.about("Promise 5: The next instruction is place p: true; false if p is not 0 .. 39");
        CountedHeap heap = new CountedHeap();
        for (int p = -45; p <= 90; p++) {
            int before = heap.next();
            boolean place = p >= 0 && p <= 39;
            CHECK.is("start(" + p + ")", heap.start(p), place);
            CHECK.is("next", heap.next(), place ? p : before);
        }
        CHECK.is("the lowest", heap.start(LOW), false);
        CHECK.is("the highest", heap.start(HIGH), false);
        CHECK.is("next", heap.next(), 39);
    }

    private static void startEmptiesTheStack() {
        CHECK.about("Promise 5: the stack is empty");
        for (int open = 0; open <= 8; open++) {
            CountedHeap heap = program(i(13, 0, 0, 0), i(14, 0, 0, 0));
            CHECK.runs(heap, open, open);
            CHECK.is("open", heap.open(), open);
            CHECK.is("start", heap.start(1), true);
            CHECK.is("open", heap.open(), 0);
            CHECK.faults(heap, 1, STATE);
        }
    }

    private static void startRefused() {
        CHECK.about("Promise 5, refused: changes nothing");
        CountedHeap heap = program(i(1, 0, 1, 0), i(13, 2, 0, 0), i(14, 0, 0, 0));
        CHECK.runs(heap, 2, 2);
        String before = picture(heap);
        for (int p : new int[] {LOW, -1, 40, HIGH}) {
            CHECK.is("start(" + p + ")", heap.start(p), false);
            CHECK.is("picture", picture(heap), before);
        }
        CHECK.runs(heap, 1, 1);
        CHECK.is("the place on the stack was kept", heap.next(), 2);
        CHECK.is("open", heap.open(), 0);
    }

    private static void runOfNoneAndOfMost() {
        CHECK.about("Promise 6: Does up to n instructions (n from 0 to 500): how many it did");
        CountedHeap heap = program(i(3, 0, 0, 1), i(7, 0, 0, 0));
        heap.set(1, 1);
        String before = picture(heap);
        CHECK.runs(heap, 0, 0);
        CHECK.is("none is done", picture(heap), before);
        for (int n : new int[] {1, 2, 3, 499, 500}) {
            heap.set(0, 0);
            heap.start(0);
            CHECK.runs(heap, n, n);
            CHECK.is("every other one adds", heap.frame(0), (n + 1) / 2);
            CHECK.is("next", heap.next(), n % 2);
        }
        replace(heap, i(14, 0, 0, 0));
        CHECK.runs(heap, 0, 0);
    }

    private static void runOfAnotherNumber() {
        CHECK.about("Promise 6: IllegalArgumentException, and nothing is done, if n is another number");
        CountedHeap heap = program(i(1, 0, 1, 0), i(14, 0, 0, 0));
        CountedHeap empty = new CountedHeap();
        CountedHeap halted = program(i(0, 0, 0, 0));
        CountedHeap faulty = program(i(14, 0, 0, 0));
        for (int n : new int[] {LOW, -500, -1, 501, 512, 1000, HIGH}) {
            String before = picture(heap);
            CHECK.faults(heap, n, ARGUMENT);
            CHECK.is("picture", picture(heap), before);
            CHECK.faults(empty, n, ARGUMENT);
            CHECK.faults(halted, n, ARGUMENT);
            CHECK.faults(faulty, n, ARGUMENT);
        }
        CHECK.runs(heap, 1, 1);
    }

    private static void runBehindAHalt() {
        CHECK.about("Promise 6: It ends before that behind a halt (which is counted; the next instruction stays the "
            + "halt)");
        for (int n = 0; n <= 4; n++) {
            CountedHeap heap = program(i(1, 0, 1, 0), i(0, 0, 0, 0), i(1, 1, 1, 0));
            CHECK.runs(heap, n, n < 2 ? n : 2);
            CHECK.is("next", heap.next(), n < 1 ? 0 : 1);
            CHECK.is("what is behind it is not done", heap.frame(1), 0);
        }
        CountedHeap heap = program(i(13, 1, 0, 0), i(0, 0, 0, 0));
        CHECK.runs(heap, 500, 2);
        CHECK.runs(heap, 500, 1);
        CHECK.runs(heap, 1, 1);
        CHECK.runs(heap, 0, 0);
        CHECK.is("next", heap.next(), 1);
        CHECK.is("the stack stays", heap.open(), 1);
    }

    private static void runWithNoInstruction() {
        CHECK.about("Promise 6: or if there is no instruction at the next place");
        CountedHeap heap = new CountedHeap();
        CHECK.runs(heap, 500, 0);
        append(heap, i(1, 0, 1, 0), i(7, 3, 0, 0), i(1, 0, 2, 0));
        CHECK.runs(heap, 500, 2);
        CHECK.is("behind the last one", heap.next(), 3);
        CHECK.runs(heap, 500, 0);
        CHECK.is("next", heap.next(), 3);
        append(heap, i(1, 0, 3, 0));
        CHECK.runs(heap, 500, 1);
        CHECK.is("one has come there", heap.frame(0), 3);
        heap.start(39);
        CHECK.runs(heap, 500, 0);
        CHECK.is("next", heap.next(), 39);
        heap.start(3);
        CHECK.runs(heap, 1, 1);
        CHECK.is("n is done and there is none", heap.next(), 4);
    }

    private static void runThrowsWhatAnInstructionThrows() {
        CHECK.about("Promise 6: Throws what an instruction throws (what was done before it stays)");
        int[][] faulty = {i(1, 24, 0, 0), i(1, 17, 0, 0), i(1, 4, 0, 0), i(14, 0, 0, 0)};
        Class<?>[] due = {STATE, INDEX, ARGUMENT, STATE};
        for (int k = 0; k < 4; k++) {
            int[][] instructions = {i(1, 0, 1, 0), i(9, 4, 0, 0), faulty[k], i(1, 0, 2, 0)};
            CountedHeap stopped = program(instructions);
            CHECK.runs(stopped, 2, 2);
            CountedHeap heap = program(instructions);
            CHECK.faults(heap, 500, due[k]);
            CHECK.is("as if it had ended before it", picture(heap), picture(stopped));
        }
        CountedHeap full = chain(23);
        replace(full, i(9, 6, 0, 0), i(1, 1, 8, 0), i(9, 7, 0, 0));
        CHECK.faults(full, 3, UNSUPPORTED);
        CHECK.is("the 24th stays", full.root(2) == 24 && full.frame(1) == 8, true);
        CHECK.is("next", full.next(), 2);
    }

    private static void nextPlaces() {
        CHECK.about("Promise 7: The place of the next instruction");
        CountedHeap heap = new CountedHeap();
        for (int place = 0; place < 40; place++) {
            append(heap, i(1, 0, place, 0));
            CHECK.is("an instruction more changes no place", heap.next(), 0);
        }
        for (int place = 0; place < 40; place++) {
            CHECK.is("next", heap.next(), place);
            CHECK.runs(heap, 1, 1);
        }
        CHECK.is("behind the last place", heap.next(), 40);
        CHECK.runs(heap, 500, 0);
        CHECK.is("it stays there", heap.next(), 40);
    }

    private static void openPlaces() {
        CHECK.about("Promise 8: How many places are on the stack");
        CountedHeap heap = program(i(13, 0, 0, 0), i(14, 0, 0, 0));
        for (int open = 0; open <= 8; open++) {
            CHECK.is("open", heap.open(), open);
            CHECK.is("run", Check.outcome(heap, 1), open < 8 ? "1" : "UnsupportedOperationException");
        }
        CHECK.is("open", heap.open(), 8);
    }

    private static void frameOutOfRange() {
        CHECK.about("Promise 9: 0 if i is not 0 .. 3");
        CountedHeap heap = framed();
        for (int k = -10; k <= 60; k++) {
            CHECK.is("frame(" + k + ")", heap.frame(k), k >= 0 && k <= 3 ? 11 * (k + 1) : 0);
        }
        CHECK.is("the lowest", heap.frame(LOW), 0);
        CHECK.is("the highest", heap.frame(HIGH), 0);
    }

    /** F0 .. F3 are 11, 22, 33, 44; P0 .. P3 point to blocks 1 .. 4, whose only words are 9. */
    private static CountedHeap framed() {
        CountedHeap heap = new CountedHeap();
        for (int k = 0; k < 4; k++) {
            doAll(heap, i(1, k, 11 * (k + 1), 0), i(9, 4 + k, k, 0), i(1, 16 + 8 * k, 9, 0));
        }
        heap.clear();
        return heap;
    }

    private static void setOutOfRange() {
        CHECK.about("Promise 10: Fi becomes v: true; false if i is not 0 .. 3");
        CountedHeap heap = framed();
        String before = picture(heap);
        for (int k : new int[] {LOW, -4, -1, 4, 5, 7, 8, 16, 47, HIGH}) {
            CHECK.is("set(" + k + ", 3)", heap.set(k, 3), false);
            CHECK.is("picture", picture(heap), before);
        }
        for (int k = 0; k < 4; k++) {
            for (int v : new int[] {LOW, -1, 0, HIGH, 11 * (k + 1)}) {
                CHECK.is("set(" + k + ", " + v + ")", heap.set(k, v), true);
                CHECK.is("frame", heap.frame(k), v);
            }
        }
        CHECK.is("each is as it was", picture(heap), before);
    }

    private static void rootNilAndOutOfRange() {
        CHECK.about("Promise 11: 0 if it is nil; -1 if i is not 0 .. 3");
        CountedHeap heap = framed();
        for (int k = -10; k <= 60; k++) {
            CHECK.is("root(" + k + ")", heap.root(k), k >= 0 && k <= 3 ? k + 1 : -1);
        }
        CHECK.is("the lowest", heap.root(LOW), -1);
        CHECK.is("the highest", heap.root(HIGH), -1);
        for (int k = 0; k < 4; k++) {
            doAll(heap, i(11, 4 + k, 0, 0));
            CHECK.is("nil", heap.root(k), 0);
        }
        CHECK.is("the highest block", chain(24).root(1), 24);
    }

    private static void blocksFromNoneToAll() {
        CHECK.about("Promise 12: How many blocks there are");
        CHECK.is("none", new CountedHeap().blocks(), 0);
        for (int length = 1; length <= 24; length++) {
            CHECK.is("blocks", chain(length).blocks(), length);
        }
        CountedHeap heap = chain(24);
        CHECK.faults(heap, 500, UNSUPPORTED);
        CHECK.is("a refused one is none", heap.blocks(), 24);
        doAll(heap, i(11, 5, 0, 0), i(10, 4, 16, 0));
        CHECK.is("one is given back", heap.blocks(), 23);
        doAll(heap, i(10, 16, 4, 0), i(11, 4, 0, 0));
        CHECK.is("a lost one is one", heap.blocks(), 1);
    }

    private static void countOfNone() {
        CHECK.about("Promise 13: The count of block b; -1 if there is none");
        CountedHeap heap = chain(24);
        for (int b = -30; b <= 60; b++) {
            CHECK.is("count(" + b + ")", heap.count(b), b < 1 || b > 24 ? -1 : b == 24 ? 2 : 1);
        }
        CHECK.is("the lowest", heap.count(LOW), -1);
        CHECK.is("the highest", heap.count(HIGH), -1);
        doAll(heap, i(11, 5, 0, 0), i(11, 4, 0, 0));
        for (int b = 1; b <= 24; b++) {
            CHECK.is("given back", heap.count(b), -1);
        }
    }

    private static void typeOfNone() {
        CHECK.about("Promise 14: The type of block b; -1 if there is none");
        CountedHeap heap = framed();
        for (int b = -30; b <= 60; b++) {
            CHECK.is("typeOf(" + b + ")", heap.typeOf(b), b < 1 || b > 4 ? -1 : b - 1);
        }
        CHECK.is("the lowest", heap.typeOf(LOW), -1);
        CHECK.is("the highest", heap.typeOf(HIGH), -1);
        doAll(heap, i(11, 7, 0, 0));
        CHECK.is("given back", heap.typeOf(4), -1);
        CountedHeap full = chain(23);
        CHECK.is("no block 24", full.typeOf(24), -1);
        doAll(full, i(9, 6, 3, 0));
        CHECK.is("block 24", full.typeOf(24), 3);
    }

    private static void wordOfAnIntAndOfAPointer() {
        CHECK.about("Promise 15: an int itself, for a pointer the number of the block (0 nil)");
        CountedHeap heap = new CountedHeap();
        heap.type(1, 6, 40);
        doAll(heap, i(9, 4, 1, 0), i(1, 16, LOW, 0), i(1, 17, HIGH, 0), i(1, 18, -1, 0), i(9, 19, 0, 0));
        CHECK.is("the lowest int", heap.word(1, 0), -2147483648L);
        CHECK.is("the highest int", heap.word(1, 1), 2147483647L);
        CHECK.is("an int below 0", heap.word(1, 2), -1L);
        CHECK.is("a pointer", heap.word(1, 3), 2L);
        CHECK.is("an int", heap.word(1, 4), 0L);
        CHECK.is("nil", heap.word(1, 5), 0L);
        CountedHeap full = chain(24);
        doAll(full, i(10, 16, 4, 0));
        CHECK.is("block 24 points to itself", full.word(24, 0), 24L);
    }

    private static void noSuchBlockOrWord() {
        CHECK.about("Promise 15: 4294967296 if there is no such block or word");
        for (int b = -30; b <= 60; b++) {
            CountedHeap heap = withBlocksTwoAndThree();
            for (int w = -10; w <= 20; w++) {
                boolean word = w >= 0 && (b == 2 && w < 6 || b == 3 && w < 1);
                CHECK.is("word(" + b + ", " + w + ")", heap.word(b, w), word ? 0 : NO_WORD);
            }
        }
        CountedHeap heap = withBlocksTwoAndThree();
        for (int far : new int[] {LOW, HIGH}) {
            CHECK.is("word(2, " + far + ")", heap.word(2, far), NO_WORD);
            CHECK.is("word(" + far + ", 0)", heap.word(far, 0), NO_WORD);
            CHECK.is("word(" + far + ", " + far + ")", heap.word(far, far), NO_WORD);
        }
    }

    /** Block 2 has six words and block 3 one; block 1, of six words, is given back. */
    private static CountedHeap withBlocksTwoAndThree() {
        CountedHeap heap = new CountedHeap();
        heap.type(1, 6, 0);
        doAll(heap, i(9, 4, 1, 0), i(9, 5, 1, 0), i(9, 6, 0, 0), i(11, 4, 0, 0));
        return heap;
    }

    private static void givenSinceTheBeginning() {
        CHECK.about("Promise 16: How many blocks were given back since the beginning (those by collect() too)");
        CountedHeap heap = new CountedHeap();
        heap.type(0, 1, 1);
        CHECK.is("none", heap.given(), 0);
        replace(heap, i(9, 4, 0, 0), i(7, 0, 0, 0));
        CHECK.runs(heap, 500, 500);
        CHECK.is("one for each but the last", heap.given(), 249);
        CHECK.is("clear", heap.clear(), 2);
        CHECK.is("start", heap.start(0), true);
        CHECK.is("they stay counted", heap.given(), 249);
        doAll(heap, i(10, 16, 4, 0), i(11, 4, 0, 0));
        CHECK.is("a lost one is not given back", heap.given(), 249);
        CHECK.is("collect", heap.collect(), 1);
        CHECK.is("by collect", heap.given(), 250);
        CHECK.is("collect", heap.collect(), 0);
        CHECK.is("none more", heap.given(), 250);
    }

    private static void lostFromNoneToAll() {
        CHECK.about("Promise 17: How many blocks cannot be come to from P0 .. P3 along pointers");
        CHECK.is("no blocks", new CountedHeap().lost(), 0);
        for (int pointer = 4; pointer <= 7; pointer++) {
            CountedHeap heap = ring();
            CHECK.is("a ring held by one pointer", heap.lost(), 0);
            doAll(heap, i(10, pointer, 5, 0));
            for (int other = 4; other <= 7; other++) {
                if (other != pointer) {
                    doAll(heap, i(11, other, 0, 0));
                }
            }
            CHECK.is("held by " + pointer, heap.lost(), 0);
            doAll(heap, i(11, pointer, 0, 0));
            CHECK.is("held by none", heap.lost(), 24);
            CHECK.is("blocks", heap.blocks(), 24);
        }
    }

    private static void lostAlongPointersOnly() {
        CHECK.about("Promise 17: along pointers, of each word of a block, and not along ints");
        for (int w = 0; w < 6; w++) {
            CountedHeap heap = new CountedHeap();
            heap.type(0, 6, 1 << w);
            heap.type(1, 1, 1);
            doAll(heap, i(9, 4, 0, 0), i(9, 5, 1, 0), i(10, 24, 5, 0), i(10, 16 + w, 5, 0), i(11, 5, 0, 0));
            CHECK.is("come to by word " + w, heap.lost(), 0);
            doAll(heap, i(11, 16 + w, 0, 0));
            for (int other = 0; other < 6; other++) {
                if (other != w) {
                    doAll(heap, i(1, 16 + other, 2, 0));
                }
            }
            for (int k = 0; k < 4; k++) {
                heap.set(k, 2);
            }
            CHECK.is("the ints 2 do not point to block 2", heap.lost(), 1);
        }
    }

    private static void collectNoneAndAll() {
        CHECK.about("Promise 18: All blocks that cannot be come to so are given back: how many");
        CHECK.is("no blocks", new CountedHeap().collect(), 0);
        CountedHeap heap = ring();
        String before = picture(heap);
        CHECK.is("none is lost", heap.collect(), 0);
        CHECK.is("picture", picture(heap), before);
        doAll(heap, i(11, 5, 0, 0));
        CHECK.is("all are lost", heap.collect(), 24);
        CHECK.is("blocks", heap.blocks(), 0);
        CHECK.is("given", heap.given(), 24);
        CHECK.is("lost", heap.lost(), 0);
        CHECK.is("again", heap.collect(), 0);
        for (int b = 1; b <= 24; b++) {
            CHECK.is("no block any more", heap.count(b), -1);
        }
        doAll(heap, i(9, 4, 0, 0));
        CHECK.is("a new one", picture(heap), "next 1 open 0 blocks 1 given 24 lost 0 F0 0 P0 1 F1 0 P1 0 F2 0 P2 0 "
            + "F3 0 P3 0 block 1 of 0 count 1: 0");
    }

    private static void collectTogether() {
        CHECK.about("Promise 18: given back together");
        CountedHeap heap = new CountedHeap();
        heap.type(0, 3, 7);
        // Two rings of two; block 1 of the first points also to 3 of the second, and to itself.
        doAll(heap, i(9, 4, 0, 0), i(9, 5, 0, 0), i(9, 6, 0, 0), i(9, 7, 0, 0), i(10, 16, 5, 0), i(10, 24, 4, 0),
            i(10, 32, 7, 0), i(10, 40, 6, 0), i(10, 17, 6, 0), i(10, 18, 4, 0));
        doAll(heap, i(11, 4, 0, 0), i(11, 5, 0, 0), i(11, 6, 0, 0), i(11, 7, 0, 0));
        CHECK.is("blocks", heap.blocks(), 4);
        CHECK.is("each once, whatever points to it", heap.collect(), 4);
        CHECK.is("given", heap.given(), 4);
        CHECK.is("blocks", heap.blocks(), 0);
    }

    private static void collectTakesOffInOthers() {
        CHECK.about("Promise 18: what their pointers counted in others is taken off");
        for (int pointers = 1; pointers <= 5; pointers++) {
            CountedHeap heap = new CountedHeap();
            heap.type(0, 6, 63);
            heap.type(1, 6, 21);
            doAll(heap, i(9, 4, 0, 0), i(9, 5, 0, 0), i(9, 6, 1, 0), i(10, 24, 5, 0));
            for (int w = 1; w <= pointers; w++) {
                doAll(heap, i(10, 24 + w, 4, 0));
            }
            // Ints of a lost block that look like the number of a block count nothing.
            doAll(heap, i(1, 33, 1, 0), i(10, 32, 6, 0), i(10, 34, 4, 0), i(11, 5, 0, 0), i(11, 6, 0, 0));
            CHECK.is("count", heap.count(1), pointers + 2);
            CHECK.is("collect", heap.collect(), 2);
            CHECK.is("only the frame's pointer is left", heap.count(1), 1);
            CHECK.is("blocks", heap.blocks(), 1);
            doAll(heap, i(11, 4, 0, 0));
            CHECK.is("which can give it back", heap.blocks(), 0);
            CHECK.is("given", heap.given(), 3);
        }
    }

    private static void collectTakesOffForEachWord() {
        CHECK.about("Promise 18: what their pointers counted in others is taken off, whichever word it is");
        for (int w = 0; w < 6; w++) {
            CountedHeap heap = new CountedHeap();
            heap.type(0, 6, 63);
            doAll(heap, i(9, 4, 1, 0), i(9, 5, 0, 0), i(10, 24 + (w + 1) % 6, 5, 0), i(10, 24 + w, 4, 0),
                i(11, 5, 0, 0));
            CHECK.is("count", heap.count(1), 2);
            CHECK.is("collect", heap.collect(), 1);
            CHECK.is("word " + w + " is taken off", heap.count(1), 1);
        }
    }

    private static void questionsChangeNothing() {
        CHECK.about("Promises 7 to 9 and 11 to 17: a question changes nothing, out of range too");
        CountedHeap heap = framed();
        append(heap, i(13, 1, 0, 0));
        CHECK.runs(heap, 1, 1);
        String before = picture(heap);
        for (int far : new int[] {LOW, -1, 0, 4, 24, 25, 40, HIGH}) {
            heap.frame(far);
            heap.root(far);
            heap.count(far);
            heap.typeOf(far);
            heap.word(far, far);
            heap.word(1, far);
            heap.word(far, 0);
        }
        heap.lost();
        heap.collect();
        CHECK.is("picture", picture(heap), before);
    }
}

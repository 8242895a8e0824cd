/** The edges that "Terms" of the document names, one test for each of its sentences. */
public final class TermsEdgesTest extends Bench {
    public static void main(String[] args) {
        sizesOneToSix();
        bitsOfTheMap();
        mostPointersToOneBlock();
        roomForTwentyFour();
        leastNumber();
        leastNumberAfterCollect();
        frameOfFourAndFour();
        operandsAndNone();
        fortyInstructions();
        haltAtEitherEnd();
        anyNumberForAnInt();
        wrapping();
        lessAtTheEnds();
        onAtAnyPlace();
        onIfNotZero();
        newBlockIsEmpty();
        pointerBecomesPointer();
        pointerBecomesNil();
        bothNilOrTheSame();
        stackOfEight();
        callAtTheEnd();
        lastPutOnComesFirst();
        elseTheNextInstruction();
        readBeforeWritten();
        oneMoreFirst();
        givenBackAtOnce();
        nilPointersAreNotDropped();
        eachPointerIsDropped();
        andSoOn();
        ringsAreNotGivenBack();
        faultIfNil();
        faultIfNoSuchWord();
        faultIfOtherKind();
        faultsByOperand();
        noFaultsButOfOperands();
        faultIfTwentyFour();
        faultOfOperandBeforeRoom();
        faultIfStackFull();
        faultIfStackEmpty();
        nextRunBeginsWithItAgain();
        CHECK.done();
    }

    private static void sizesOneToSix() {
        CHECK.about("TYPES 0 .. 3: each has a SIZE 1 .. 6, the number of its words");
        for (int t = 0; t <= 3; t++) {
            for (int size = 1; size <= 6; size++) {
                CountedHeap heap = new CountedHeap();
                CHECK.is("type", heap.type(t, size, 0), true);
                doAll(heap, i(9, 4, t, 0), i(1, 16 + size - 1, 5, 0));
                CHECK.is("typeOf", heap.typeOf(1), t);
                CHECK.is("the last word", heap.word(1, size - 1), 5);
                CHECK.is("behind the last", heap.word(1, size), NO_WORD);
                fault(heap, i(1, 16 + size, 5, 0), INDEX);
            }
        }
    }

    private static void bitsOfTheMap() {
        CHECK.about("word w is a POINTER if bit w of the map is 1, else an INT");
        for (int size = 1; size <= 6; size++) {
            for (int map = 0; map < 1 << size; map++) {
                CountedHeap heap = new CountedHeap();
                CHECK.is("type", heap.type(1, size, map), true);
                doAll(heap, i(9, 4, 1, 0));
                for (int w = 0; w < size; w++) {
                    wordIs((map / (1 << w)) % 2 == 1, heap, w);
                }
            }
        }
    }

    private static void wordIs(boolean pointer, CountedHeap heap, int w) {
        if (pointer) {
            fault(heap, i(1, 16 + w, 9, 0), ARGUMENT);
            doAll(heap, i(10, 16 + w, 4, 0));
            CHECK.is("a pointer, word " + w, heap.word(1, w), 1);
        } else {
            fault(heap, i(10, 16 + w, 4, 0), ARGUMENT);
            doAll(heap, i(1, 16 + w, 9, 0));
            CHECK.is("an int, word " + w, heap.word(1, w), 9);
        }
    }

    private static void mostPointersToOneBlock() {
        CHECK.about("a COUNT, the number of pointers to it, from the frame and from words of blocks");
        CountedHeap heap = new CountedHeap();
        CHECK.is("type", heap.type(0, 6, 63), true);
        doAll(heap, i(9, 7, 0, 0), i(10, 4, 7, 0), i(10, 40, 7, 0), i(10, 41, 7, 0), i(10, 42, 7, 0),
            i(10, 43, 7, 0), i(10, 44, 7, 0), i(10, 45, 7, 0));
        CHECK.is("two of the frame and six of its own", heap.count(1), 8);
        replace(heap, i(9, 5, 0, 0), i(10, 24, 4, 0), i(10, 25, 7, 0), i(10, 26, 7, 0), i(10, 27, 7, 0),
            i(10, 28, 7, 0), i(10, 29, 7, 0), i(10, 4, 5, 0), i(7, 0, 0, 0));
        CHECK.runs(heap, 23 * 9 - 1, 23 * 9 - 1);
        doAll(heap, i(10, 5, 7, 0), i(10, 6, 7, 0));
        CHECK.is("each of 148 pointers but the 23 that hold the others", heap.count(1), 125);
        CHECK.is("blocks", heap.blocks(), 24);
        doAll(heap, i(11, 5, 0, 0), i(11, 6, 0, 0), i(11, 7, 0, 0));
        CHECK.is("without the frame's", heap.count(1), 122);
        doAll(heap, i(11, 4, 0, 0));
        CHECK.is("only its own are left", heap.count(1), 6);
        CHECK.is("given", heap.given(), 23);
        CHECK.is("lost", heap.lost(), 1);
    }

    private static void roomForTwentyFour() {
        CHECK.about("The HEAP has room for 24 blocks, numbered 1 .. 24");
        for (int length = 1; length <= 24; length++) {
            CountedHeap heap = chain(length);
            CHECK.is("the newest", heap.root(0), length);
            CHECK.is("blocks", heap.blocks(), length);
            CHECK.is("no block behind it", heap.count(length + 1), -1);
        }
        fault(chain(24), i(9, 6, 0, 0), UNSUPPORTED);
    }

    private static void leastNumber() {
        CHECK.about("a new block takes the least number that no block has");
        for (int gap = 0; gap < 4; gap++) {
            for (int other = gap; other < 4; other++) {
                CountedHeap heap = new CountedHeap();
                doAll(heap, i(9, 4, 0, 0), i(9, 5, 0, 0), i(9, 6, 0, 0), i(9, 7, 0, 0));
                doAll(heap, i(11, 4 + other, 0, 0), i(11, 4 + gap, 0, 0), i(9, 4 + other, 0, 0));
                CHECK.is("into the lesser gap", heap.root(other), gap + 1);
                doAll(heap, i(9, 4 + gap, 0, 0));
                // Where there is one gap alone, the new block is written over the one that filled it.
                CHECK.is("into the other gap", heap.root(gap), gap == other ? 5 : other + 1);
            }
        }
        CountedHeap full = chain(24);
        doAll(full, i(11, 5, 0, 0), i(10, 4, 16, 0), i(9, 5, 0, 0));
        CHECK.is("only 24 is free", full.root(1), 24);
    }

    private static void leastNumberAfterCollect() {
        CHECK.about("a new block takes the least number that no block has, after collect()");
        CountedHeap heap = new CountedHeap();
        heap.type(1, 1, 1);
        doAll(heap, i(9, 4, 0, 0), i(9, 5, 1, 0), i(9, 6, 1, 0), i(9, 7, 0, 0), i(10, 24, 6, 0), i(10, 32, 5, 0),
            i(11, 5, 0, 0), i(11, 6, 0, 0), i(9, 6, 0, 0));
        CHECK.is("lost blocks keep their numbers", heap.root(2), 5);
        CHECK.is("collect", heap.collect(), 2);
        doAll(heap, i(9, 5, 0, 0), i(9, 6, 0, 0));
        CHECK.is("the first free one", heap.root(1), 2);
        CHECK.is("the second", heap.root(2), 3);
    }

    private static void frameOfFourAndFour() {
        CHECK.about("THE FRAME has the ints F0 .. F3 and the pointers P0 .. P3; 0 .. 3 are F0 .. F3; 4 .. 7 are P0 "
            + ".. P3");
        for (int k = 0; k < 4; k++) {
            CountedHeap heap = new CountedHeap();
            doAll(heap, i(1, k, 70, 0), i(9, 4 + k, 0, 0));
            for (int other = 0; other < 4; other++) {
                CHECK.is("F" + other, heap.frame(other), other == k ? 70 : 0);
                CHECK.is("P" + other, heap.root(other), other == k ? 1 : 0);
            }
        }
    }

    private static void operandsAndNone() {
        CHECK.about("16 + 8 * k + w, k 0 .. 3 and w 0 .. 7, is word w of the block to which Pk points. Others are "
            + "none");
        for (int k = 0; k < 4; k++) {
            for (int w = 0; w < 6; w++) {
                CountedHeap heap = new CountedHeap();
                heap.type(0, 6, 0);
                doAll(heap, i(9, 4, 0, 0), i(9, 5, 0, 0), i(9, 6, 0, 0), i(9, 7, 0, 0),
                    i(1, 16 + 8 * k + w, 8, 0), i(2, 0, 16 + 8 * k + w, 0));
                CHECK.is("the word", heap.word(k + 1, w), 8);
                CHECK.is("read again", heap.frame(0), 8);
            }
        }
        CountedHeap heap = new CountedHeap();
        for (int none : new int[] {LOW, -17, -16, -1, 8, 9, 15, 48, 49, 56, HIGH}) {
            CHECK.is("add(11, " + none + ", 0, 0)", heap.add(11, none, 0, 0), -2);
        }
        for (int operand : new int[] {0, 3, 4, 7, 16, 23, 24, 47}) {
            CHECK.is("add(11, " + operand + ", 0, 0)", heap.add(11, operand, 0, 0) >= 0, true);
        }
    }

    private static void fortyInstructions() {
        CHECK.about("INSTRUCTIONS, at most 40, counted from 0");
        CountedHeap heap = new CountedHeap();
        heap.set(1, 1);
        for (int place = 0; place < 40; place++) {
            CHECK.is("place", heap.add(3, 0, 0, 1), place);
        }
        CHECK.is("a place too many", heap.add(3, 0, 0, 1), -3);
        CHECK.runs(heap, 500, 40);
        CHECK.is("each is done once", heap.frame(0), 40);
        CHECK.is("next", heap.next(), 40);
    }

    private static void haltAtEitherEnd() {
        CHECK.about("0 halt");
        CountedHeap heap = program(i(0, 0, 0, 0));
        for (int place = 1; place < 39; place++) {
            append(heap, i(1, 0, place, 0));
        }
        append(heap, i(0, LOW, HIGH, -1));
        CHECK.runs(heap, 500, 1);
        CHECK.is("at the first place", heap.next(), 0);
        CHECK.is("start(1)", heap.start(1), true);
        CHECK.runs(heap, 500, 39);
        CHECK.is("at the last place", heap.next(), 39);
        CHECK.is("frame(0)", heap.frame(0), 38);
    }

    private static void anyNumberForAnInt() {
        CHECK.about("1 int x becomes the number y. 2 int x becomes int y");
        for (int number : new int[] {LOW, -1, 0, 1, 4, 8, 48, HIGH}) {
            CountedHeap heap = new CountedHeap();
            doAll(heap, i(1, 0, number, 0), i(9, 4, 0, 0), i(2, 16, 0, 0), i(2, 3, 16, 0), i(2, 3, 3, 0));
            CHECK.is("frame(0)", heap.frame(0), number);
            CHECK.is("word(1, 0)", heap.word(1, 0), number);
            CHECK.is("frame(3)", heap.frame(3), number);
        }
    }

    private static void wrapping() {
        CHECK.about("3, 4, 5 int x becomes int y plus, minus, times int z (wrapping)");
        int[][] rows = {
            {3, 2147483647, 1, -2147483648}, {3, -2147483648, -1, 2147483647}, {3, 2147483647, 2147483647, -2},
            {3, -2147483648, -2147483648, 0}, {4, -2147483648, 1, 2147483647}, {4, 2147483647, -1, -2147483648},
            {4, 0, -2147483648, -2147483648}, {4, -2147483648, 2147483647, 1}, {5, 65536, 65536, 0},
            {5, 46341, 46341, -2147479015}, {5, -2147483648, -1, -2147483648}, {5, 2147483647, 2147483647, 1},
            {5, 2147483647, 2, -2}, {5, 0, -2147483648, 0}};
        for (int[] row : rows) {
            CountedHeap heap = new CountedHeap();
            heap.set(1, row[1]);
            heap.set(2, row[2]);
            doAll(heap, i(row[0], 0, 1, 2));
            CHECK.is("op " + row[0] + " of " + row[1] + " and " + row[2], heap.frame(0), row[3]);
        }
    }

    private static void lessAtTheEnds() {
        CHECK.about("6 int x becomes 1 if int y is less than int z, else 0");
        int[][] rows = {
            {5, 5, 0}, {4, 5, 1}, {5, 4, 0}, {LOW, HIGH, 1}, {HIGH, LOW, 0}, {LOW, LOW, 0}, {HIGH, HIGH, 0},
            {-1, 0, 1}, {0, -1, 0}, {LOW, 1, 1}, {1, LOW, 0}, {HIGH, -1, 0}, {-2, HIGH, 1}};
        for (int[] row : rows) {
            CountedHeap heap = new CountedHeap();
            heap.set(0, -5);
            heap.set(1, row[0]);
            heap.set(2, row[1]);
            doAll(heap, i(6, 0, 1, 2));
            CHECK.is(row[0] + " less than " + row[1], heap.frame(0), row[2]);
        }
    }

    private static void onAtAnyPlace() {
        CHECK.about("7 on at instruction x");
        for (int place : new int[] {0, 1, 2, 38, 39}) {
            CountedHeap heap = new CountedHeap();
            doAll(heap, i(7, place, HIGH, LOW));
            CHECK.is("next", heap.next(), place);
            CHECK.runs(heap, 3, place == 0 ? 3 : 0);
            CHECK.is("next", heap.next(), place);
        }
    }

    private static void onIfNotZero() {
        CHECK.about("8 on at instruction x if int y is not 0");
        for (int value : new int[] {LOW, -1, 0, 1, HIGH}) {
            for (int place : new int[] {0, 39}) {
                CountedHeap heap = new CountedHeap();
                heap.set(3, value);
                doAll(heap, i(8, place, 3, 0));
                CHECK.is("next if " + value, heap.next(), value == 0 ? 1 : place);
            }
        }
    }

    private static void newBlockIsEmpty() {
        CHECK.about("9 pointer x becomes a pointer to a new block of type y, with all its ints 0 and its pointers nil");
        for (int map = 0; map < 64; map++) {
            CountedHeap heap = new CountedHeap();
            heap.type(0, 6, 0);
            doAll(heap, i(9, 4, 0, 0), i(1, 16, 1, 0), i(1, 17, 2, 0), i(1, 18, HIGH, 0), i(1, 19, LOW, 0),
                i(1, 20, -1, 0), i(1, 21, 24, 0), i(11, 4, 0, 0));
            CHECK.is("type", heap.type(3, 6, map), true);
            doAll(heap, i(9, 4, 3, 0));
            CHECK.is("the number of the old one", heap.root(0), 1);
            CHECK.is("typeOf", heap.typeOf(1), 3);
            CHECK.is("count", heap.count(1), 1);
            for (int w = 0; w < 6; w++) {
                CHECK.is("word " + w, heap.word(1, w), 0);
            }
            doAll(heap, i(11, 4, 0, 0));
            CHECK.is("its pointers hold nothing", heap.blocks(), 0);
        }
    }

    private static void pointerBecomesPointer() {
        CHECK.about("10 pointer x becomes pointer y");
        CountedHeap heap = new CountedHeap();
        doAll(heap, i(10, 4, 5, 0), i(10, 4, 4, 0));
        CHECK.is("nil over nil", heap.root(0), 0);
        doAll(heap, i(9, 4, 0, 0), i(10, 5, 4, 0));
        CHECK.is("a block over nil", heap.root(1), 1);
        CHECK.is("count", heap.count(1), 2);
        doAll(heap, i(10, 5, 4, 0));
        CHECK.is("a block over itself", heap.count(1), 2);
        doAll(heap, i(9, 5, 0, 0), i(10, 4, 5, 0));
        CHECK.is("a block over another", heap.root(0), 2);
        CHECK.is("the other is given back", heap.count(1), -1);
        doAll(heap, i(10, 4, 7, 0));
        CHECK.is("nil over a block", heap.root(0), 0);
        CHECK.is("count", heap.count(2), 1);
    }

    private static void pointerBecomesNil() {
        CHECK.about("11 pointer x becomes nil");
        CountedHeap heap = new CountedHeap();
        heap.type(0, 1, 1);
        doAll(heap, i(11, 7, 0, 0));
        CHECK.is("nil over nil", heap.root(3), 0);
        CHECK.is("given", heap.given(), 0);
        doAll(heap, i(9, 7, 0, 0), i(10, 40, 7, 0), i(11, 40, 0, 0), i(11, 40, 0, 0));
        CHECK.is("a word", heap.word(1, 0), 0);
        CHECK.is("count", heap.count(1), 1);
        doAll(heap, i(11, 7, LOW, HIGH), i(11, 7, 0, 0));
        CHECK.is("given", heap.given(), 1);
        CHECK.is("blocks", heap.blocks(), 0);
    }

    private static void bothNilOrTheSame() {
        CHECK.about("12 int x becomes 1 if pointers y and z are both nil or point to the same block, else 0");
        CountedHeap heap = new CountedHeap();
        doAll(heap, i(9, 4, 0, 0), i(9, 5, 0, 0), i(10, 6, 4, 0));
        int[][] rows = {{7, 7, 1}, {4, 4, 1}, {4, 6, 1}, {6, 4, 1}, {4, 5, 0}, {5, 4, 0}, {4, 7, 0}, {7, 4, 0}};
        for (int[] row : rows) {
            heap.set(2, -9);
            doAll(heap, i(12, 2, row[0], row[1]));
            CHECK.is("pointers " + row[0] + " and " + row[1], heap.frame(2), row[2]);
        }
        CountedHeap empty = new CountedHeap();
        doAll(empty, i(12, 0, 4, 7));
        CHECK.is("two that are nil", empty.frame(0), 1);
    }

    private static void stackOfEight() {
        CHECK.about("13 call: on at instruction x; the next instruction is put on a stack of at most 8 places");
        CountedHeap heap = new CountedHeap();
        for (int k = 0; k < 9; k++) {
            append(heap, i(13, k + 1, 0, 0));
        }
        for (int k = 1; k <= 8; k++) {
            CHECK.runs(heap, 1, 1);
            CHECK.is("open", heap.open(), k);
            CHECK.is("next", heap.next(), k);
        }
        CHECK.faults(heap, 1, UNSUPPORTED);
        CHECK.is("open", heap.open(), 8);
        CHECK.is("next", heap.next(), 8);
    }

    private static void callAtTheEnd() {
        CHECK.about("the next instruction is put on a stack, where there is none yet");
        CountedHeap heap = program(i(14, 0, 0, 0), i(13, 0, 0, 0));
        heap.start(1);
        CHECK.runs(heap, 500, 2);
        CHECK.is("behind the call", heap.next(), 2);
        append(heap, i(1, 0, 6, 0));
        CHECK.runs(heap, 500, 1);
        CHECK.is("it has come since", heap.frame(0), 6);
        replace(heap, i(14, 0, 0, 0));
        for (int place = 1; place < 40; place++) {
            append(heap, i(13, 0, 0, 0));
        }
        heap.start(39);
        CHECK.runs(heap, 500, 2);
        CHECK.is("behind the last place", heap.next(), 40);
        CHECK.is("open", heap.open(), 0);
    }

    private static void lastPutOnComesFirst() {
        CHECK.about("14 return: the place put on last is taken off, and it goes on there");
        CountedHeap heap = new CountedHeap();
        for (int k = 0; k < 8; k++) {
            append(heap, i(13, 2 * k + 2, 0, 0), i(14, 0, 0, 0));
        }
        append(heap, i(14, LOW, HIGH, -1));
        CHECK.runs(heap, 8, 8);
        for (int k = 7; k >= 0; k--) {
            CHECK.is("open", heap.open(), k + 1);
            CHECK.runs(heap, 1, 1);
            CHECK.is("next", heap.next(), 2 * k + 1);
        }
        CHECK.is("open", heap.open(), 0);
    }

    private static void elseTheNextInstruction() {
        CHECK.about("Where no other place is said it goes on with the next instruction");
        CountedHeap heap = new CountedHeap();
        for (int op = 1; op <= 12; op++) {
            if (op != 7) {
                boolean pointer = op >= 9 && op <= 11;
                doAll(heap, i(1, 0, 0, 0), i(op, pointer ? 4 : 0, op == 10 || op == 12 ? 4 : 0, op == 12 ? 4 : 0));
                CHECK.is("next behind op " + op, heap.next(), 2);
            }
        }
    }

    private static void readBeforeWritten() {
        CHECK.about("What is read is read before anything is written");
        CountedHeap heap = chain(2);
        heap.set(0, 7);
        doAll(heap, i(3, 0, 0, 0));
        CHECK.is("x, y and z are one: plus", heap.frame(0), 14);
        doAll(heap, i(5, 0, 0, 0));
        CHECK.is("x, y and z are one: times", heap.frame(0), 196);
        doAll(heap, i(6, 0, 0, 0));
        CHECK.is("x, y and z are one: less", heap.frame(0), 0);
        heap.set(0, 7);
        heap.set(1, 5);
        doAll(heap, i(4, 0, 1, 0));
        CHECK.is("x is z: minus", heap.frame(0), -2);
        doAll(heap, i(11, 5, 0, 0), i(10, 4, 16, 0));
        CHECK.is("a word of the block that goes", heap.root(0), 1);
        CHECK.is("the block there stays", heap.count(1), 1);
        CHECK.is("given", heap.given(), 1);
        doAll(heap, i(10, 16, 4, 0), i(9, 16, 0, 0), i(10, 4, 16, 0));
        CHECK.is("x is a word of the block before", heap.root(0), 2);
        CHECK.is("count", heap.count(2), 1);
    }

    private static void oneMoreFirst() {
        CHECK.about("the block to which it points then counts one more first, after that the one before counts one "
            + "less");
        for (int pointer = 4; pointer <= 7; pointer++) {
            CountedHeap heap = new CountedHeap();
            heap.type(0, 1, 1);
            doAll(heap, i(9, pointer, 0, 0), i(10, pointer, pointer, 0));
            CHECK.is("the only pointer over itself", heap.count(1), 1);
            CHECK.is("given", heap.given(), 0);
            int word = 16 + 8 * (pointer - 4);
            doAll(heap, i(9, word, 0, 0), i(10, word, word, 0));
            CHECK.is("the only word over itself", heap.count(2), 1);
            doAll(heap, i(10, pointer, word, 0));
            CHECK.is("what only the block before held", heap.count(2), 1);
            CHECK.is("given", heap.given(), 1);
            doAll(heap, i(9, pointer, 0, 0));
            CHECK.is("a new one while the old one stands", heap.root(pointer - 4), 1);
        }
    }

    private static void givenBackAtOnce() {
        CHECK.about("A block whose count becomes 0 so is GIVEN BACK at once: it is no block any more");
        CountedHeap heap = program(i(9, 4, 2, 0), i(10, 5, 4, 0), i(11, 4, 0, 0), i(11, 5, 0, 0), i(9, 6, 3, 0));
        CHECK.runs(heap, 3, 3);
        CHECK.is("one pointer is left", heap.count(1), 1);
        CHECK.is("given", heap.given(), 0);
        CHECK.runs(heap, 1, 1);
        CHECK.is("count", heap.count(1), -1);
        CHECK.is("typeOf", heap.typeOf(1), -1);
        CHECK.is("word", heap.word(1, 0), NO_WORD);
        CHECK.is("blocks", heap.blocks(), 0);
        CHECK.is("given", heap.given(), 1);
        CHECK.is("lost", heap.lost(), 0);
        CHECK.is("its type is free", heap.type(2, 2, 3), true);
        CHECK.runs(heap, 1, 1);
        CHECK.is("its number is free", heap.root(2), 1);
    }

    private static void nilPointersAreNotDropped() {
        CHECK.about("each of its pointers that is not nil is dropped");
        CountedHeap heap = new CountedHeap();
        heap.type(0, 6, 42);
        // The ints 2 .. 4 of block 1 look like the numbers of blocks, and its pointers are nil but for one.
        doAll(heap, i(9, 4, 0, 0), i(9, 5, 1, 0), i(9, 6, 1, 0), i(9, 7, 1, 0), i(1, 16, 2, 0), i(1, 18, 3, 0),
            i(1, 20, 4, 0), i(10, 19, 6, 0));
        CHECK.is("count(3)", heap.count(3), 2);
        doAll(heap, i(11, 4, 0, 0));
        CHECK.is("blocks", heap.blocks(), 3);
        for (int b = 2; b <= 4; b++) {
            CHECK.is("count(" + b + ")", heap.count(b), 1);
        }
    }

    private static void eachPointerIsDropped() {
        CHECK.about("so that the block there counts one less, which may give that back too");
        for (int pointers = 1; pointers <= 6; pointers++) {
            CountedHeap heap = new CountedHeap();
            heap.type(0, 6, 63);
            doAll(heap, i(9, 4, 0, 0), i(9, 5, 1, 0));
            for (int w = 0; w < pointers; w++) {
                doAll(heap, i(10, 16 + w, 5, 0));
            }
            CHECK.is("count", heap.count(2), pointers + 1);
            doAll(heap, i(10, 6, 4, 0), i(11, 4, 0, 0), i(11, 6, 0, 0));
            CHECK.is("one less for each pointer", heap.count(2), 1);
            CHECK.is("given", heap.given(), 1);
            doAll(heap, i(9, 4, 0, 0), i(10, 21, 5, 0), i(10, 16, 5, 0), i(11, 5, 0, 0), i(11, 4, 0, 0));
            CHECK.is("both go", heap.blocks(), 0);
            CHECK.is("given", heap.given(), 3);
        }
    }

    private static void andSoOn() {
        CHECK.about("which may give that back too, and so on");
        CountedHeap heap = chain(24);
        doAll(heap, i(11, 5, 0, 0));
        CHECK.is("one pointer holds all", heap.blocks(), 24);
        doAll(heap, i(11, 4, 0, 0));
        CHECK.is("blocks", heap.blocks(), 0);
        CHECK.is("given", heap.given(), 24);
        CountedHeap held = chain(24);
        doAll(held, i(11, 5, 0, 0), i(10, 6, 16, 0), i(10, 7, 32, 0), i(11, 6, 0, 0), i(11, 4, 0, 0));
        CHECK.is("it stops at a block that another pointer holds", held.blocks(), 22);
        CHECK.is("count(22)", held.count(22), 1);
        CHECK.is("given", held.given(), 2);
    }

    private static void ringsAreNotGivenBack() {
        CHECK.about("A block whose count becomes 0: one in a ring keeps its count");
        CountedHeap heap = new CountedHeap();
        heap.type(0, 2, 3);
        doAll(heap, i(9, 4, 0, 0), i(10, 16, 4, 0), i(9, 5, 0, 0), i(10, 25, 4, 0), i(11, 4, 0, 0),
            i(11, 5, 0, 0));
        CHECK.is("block 1 points to itself", heap.count(1), 1);
        CHECK.is("block 2 is given back", heap.count(2), -1);
        CHECK.is("given", heap.given(), 1);
        CHECK.is("lost", heap.lost(), 1);
    }

    private static void faultIfNil() {
        CHECK.about("for 16 + 8 * k + w: IllegalStateException if Pk is nil");
        for (int k = 0; k < 4; k++) {
            for (int w = 0; w < 8; w++) {
                CountedHeap heap = new CountedHeap();
                doAll(heap, i(9, 4, 0, 0), i(9, 5, 0, 0), i(9, 6, 0, 0), i(9, 7, 0, 0), i(11, 4 + k, 0, 0));
                fault(heap, i(1, 16 + 8 * k + w, 1, 0), STATE);
                fault(heap, i(2, 0, 16 + 8 * k + w, 0), STATE);
                fault(heap, i(11, 16 + 8 * k + w, 0, 0), STATE);
                fault(heap, i(12, 0, 4, 16 + 8 * k + w), STATE);
            }
        }
    }

    private static void faultIfNoSuchWord() {
        CHECK.about("IndexOutOfBoundsException if the block has no word w");
        for (int size = 1; size <= 6; size++) {
            for (int w = 0; w < 8; w++) {
                CountedHeap heap = new CountedHeap();
                heap.type(2, size, 0);
                heap.type(3, size, (1 << size) - 1);
                doAll(heap, i(9, 6, 2, 0), i(9, 7, 3, 0));
                if (w < size) {
                    doAll(heap, i(1, 32 + w, 1, 0), i(2, 0, 32 + w, 0), i(11, 40 + w, 0, 0), i(12, 0, 4, 40 + w));
                } else {
                    fault(heap, i(1, 32 + w, 1, 0), INDEX);
                    fault(heap, i(2, 0, 32 + w, 0), INDEX);
                    fault(heap, i(11, 40 + w, 0, 0), INDEX);
                    fault(heap, i(12, 0, 4, 40 + w), INDEX);
                }
            }
        }
    }

    // By op: 'i' where an int is said, 'p' where a pointer is, '-' where the op has no operand.
    private static final String[] KINDS = {
        "---", "i--", "ii-", "iii", "iii", "iii", "iii", "---", "-i-", "p--", "pp-", "p--", "ipp", "---", "---"};

    // P0 points to a block whose word 0 is an int and whose word 1 is a pointer; P1 .. P3 are nil.
    private static CountedHeap withOneBlock() {
        CountedHeap heap = new CountedHeap();
        heap.type(0, 2, 2);
        doAll(heap, i(9, 4, 0, 0));
        return heap;
    }

    /** The op with sound operands, but for the one at the place (1 x, 2 y, 3 z). */
    private static int[] sound(int op, int at, int operand) {
        int[] instruction = {op, 0, 0, 0};
        for (int k = 1; k <= 3; k++) {
            instruction[k] = KINDS[op].charAt(k - 1) == 'p' ? 5 : 0;
        }
        instruction[at] = operand;
        return instruction;
    }

    private static void faultIfOtherKind() {
        CHECK.about("IllegalArgumentException if it is a pointer where an int is said, or an int where a pointer is");
        int[] ints = {0, 1, 2, 3, 16};
        int[] pointers = {4, 5, 6, 7, 17};
        for (int op = 1; op <= 12; op++) {
            for (int at = 1; at <= 3; at++) {
                char kind = KINDS[op].charAt(at - 1);
                for (int k = 0; kind != '-' && k < 5; k++) {
                    fault(withOneBlock(), sound(op, at, kind == 'i' ? pointers[k] : ints[k]), ARGUMENT);
                    doAll(withOneBlock(), sound(op, at, kind == 'i' ? ints[k] : pointers[k]));
                }
            }
        }
    }

    private static void faultsByOperand() {
        CHECK.about("FAULTS of an instruction, looked at operand by operand, first x, then y, then z");
        Class<?>[] faults = {STATE, INDEX, ARGUMENT};
        for (int op = 1; op <= 12; op++) {
            for (int first = 0; first < 3; first++) {
                for (int second = 0; second < 3; second++) {
                    inOrder(op, first, second, faults[first]);
                }
            }
        }
    }

    /** The first fault at one operand, the second at a later one: the first is due. */
    private static void inOrder(int op, int first, int second, Class<?> due) {
        for (int at = 1; at <= 3; at++) {
            for (int later = at + 1; later <= 3; later++) {
                if (KINDS[op].charAt(at - 1) != '-' && KINDS[op].charAt(later - 1) != '-') {
                    int[] instruction = sound(op, at, faulty(KINDS[op].charAt(at - 1), first));
                    instruction[later] = faulty(KINDS[op].charAt(later - 1), second);
                    fault(withOneBlock(), instruction, due);
                }
            }
        }
    }

    private static int faulty(char kind, int fault) {
        int[] operands = {40, 18, kind == 'i' ? 17 : 16};
        return operands[fault];
    }

    private static void noFaultsButOfOperands() {
        CHECK.about("as far as the op has them as operands");
        for (int number : new int[] {4, 24, 40, 47}) {
            CountedHeap heap = new CountedHeap();
            doAll(heap, i(1, 0, number, number));
            CHECK.is("y of op 1 is a number", heap.frame(0), number);
            doAll(heap, i(2, 0, 0, number), i(11, 4, number, number), i(10, 4, 4, number), i(9, 4, 0, number));
            doAll(heap, i(7, 39, number, number));
            doAll(heap, i(8, 39, 0, number));
            doAll(heap, i(13, 39, number, number));
            replace(heap, i(0, number, number, number));
            CHECK.runs(heap, 1, 1);
            replace(heap, i(13, 1, 0, 0), i(14, number, number, number));
            CHECK.runs(heap, 2, 2);
        }
        doAll(new CountedHeap(), i(7, 24, 0, 0));
        doAll(new CountedHeap(), i(13, 24, 0, 0));
        doAll(new CountedHeap(), i(8, 24, 0, 0));
        doAll(new CountedHeap(), i(9, 4, 3, 0));
    }

    private static void faultIfTwentyFour() {
        CHECK.about("for 9: UnsupportedOperationException if there are 24 blocks (also if one would be given back)");
        doAll(chain(23), i(9, 6, 0, 0));
        for (int pointer : new int[] {4, 5, 6, 7, 16, 24}) {
            fault(chain(24), i(9, pointer, 0, 0), UNSUPPORTED);
        }
        CountedHeap heap = chain(24);
        doAll(heap, i(11, 5, 0, 0));
        fault(heap, i(9, 4, 0, 0), UNSUPPORTED);
        doAll(heap, i(11, 4, 0, 0), i(9, 4, 0, 0));
        CHECK.is("blocks", heap.blocks(), 1);
        fault(lostRing(), i(9, 4, 1, 0), UNSUPPORTED);
    }

    private static CountedHeap lostRing() {
        CountedHeap heap = ring();
        doAll(heap, i(11, 5, 0, 0));
        CHECK.is("lost", heap.lost(), 24);
        return heap;
    }

    private static void faultOfOperandBeforeRoom() {
        CHECK.about("faults of operands; Then, for 9: if there are 24 blocks");
        fault(chain(24), i(9, 32, 0, 0), STATE);
        fault(chain(24), i(9, 17, 0, 0), INDEX);
        fault(chain(24), i(9, 3, 0, 0), ARGUMENT);
    }

    private static void faultIfStackFull() {
        CHECK.about("for 13: UnsupportedOperationException if the stack is full");
        CountedHeap heap = program(i(13, 0, 0, 0));
        CHECK.faults(heap, 500, UNSUPPORTED);
        CHECK.is("open", heap.open(), 8);
        CHECK.is("next", heap.next(), 0);
        append(heap, i(14, 0, 0, 0));
        CHECK.faults(heap, 1, UNSUPPORTED);
        CHECK.is("the empty stack takes eight again", heap.start(0), true);
        CHECK.runs(heap, 8, 8);
        CHECK.faults(heap, 1, UNSUPPORTED);
    }

    private static void faultIfStackEmpty() {
        CHECK.about("for 14: IllegalStateException if it is empty");
        CountedHeap heap = new CountedHeap();
        fault(heap, i(14, 0, 0, 0), STATE);
        replace(heap, i(13, 1, 0, 0), i(14, 0, 0, 0));
        CHECK.faults(heap, 500, STATE);
        CHECK.is("the second return", heap.next(), 1);
        CHECK.is("open", heap.open(), 0);
    }

    private static void nextRunBeginsWithItAgain() {
        CHECK.about("An instruction with a fault changes nothing, and the next run begins with it again");
        CountedHeap heap = lostRing();
        replace(heap, i(1, 2, 1, 0), i(3, 3, 3, 2), i(9, 7, 0, 0), i(3, 3, 3, 2));
        CHECK.faults(heap, 500, UNSUPPORTED);
        CHECK.is("next", heap.next(), 2);
        CHECK.faults(heap, 1, UNSUPPORTED);
        CHECK.is("it does not begin before it", heap.frame(3), 1);
        CHECK.is("collect makes room", heap.collect(), 24);
        CHECK.is("next", heap.next(), 2);
        CHECK.runs(heap, 500, 2);
        CHECK.is("it is done now", heap.root(3), 1);
        CHECK.is("and the one behind it", heap.frame(3), 2);
    }
}

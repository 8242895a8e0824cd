/** Each promise of the document by its number: ordinary inputs, the edges, wrong inputs. */
public final class PromisesTest extends Bench {
    public static void main(String[] args) {
        newObject();
        type();
        typeWithBlocks();
        addAnswersPlaces();
        addRefusesOps();
        addRefusesNumbers();
        addRefusesAFullProgram();
        clear();
        start();
        runCounts();
        runRefuses();
        runKeepsWhatWasDone();
        nextAndOpen();
        frameAndSet();
        root();
        blocksAndNumbers();
        countAndTypeOf();
        word();
        given();
        lost();
        collect();
        collectTakesCountsOff();
        lastBlock();
        objectsAreApart();
        CHECK.done();
    }

    private static void newObject() {
        CHECK.about("promise 1");
        CountedHeap heap = new CountedHeap();
        for (int k = 0; k < 4; k++) {
            CHECK.is("frame", heap.frame(k), 0);
            CHECK.is("root", heap.root(k), 0);
        }
        for (int b = 1; b <= 24; b++) {
            CHECK.is("count", heap.count(b), -1);
            CHECK.is("typeOf", heap.typeOf(b), -1);
            CHECK.is("word", heap.word(b, 0), NO_WORD);
        }
        CHECK.is("next", heap.next(), 0);
        CHECK.is("open", heap.open(), 0);
        CHECK.is("blocks", heap.blocks(), 0);
        CHECK.is("given", heap.given(), 0);
        CHECK.is("lost", heap.lost(), 0);
        CHECK.is("collect", heap.collect(), 0);
        CHECK.runs(heap, 500, 0);
        CHECK.is("clear", heap.clear(), 0);
        for (int t = 0; t < 4; t++) {
            append(heap, i(9, 4 + t, t, 0));
        }
        CHECK.runs(heap, 4, 4);
        for (int t = 0; t < 4; t++) {
            CHECK.is("size 1", heap.word(t + 1, 0) == 0 && heap.word(t + 1, 1) == NO_WORD, true);
            replace(heap, i(1, 16 + 8 * t, 5, 0));
            CHECK.runs(heap, 1, 1);
            CHECK.is("map 0", heap.word(t + 1, 0), 5);
        }
    }

    private static void type() {
        CHECK.about("promise 2");
        CountedHeap heap = new CountedHeap();
        for (int t : new int[] {LOW, -1, 4, HIGH}) {
            CHECK.is("type(" + t + ", 1, 0)", heap.type(t, 1, 0), false);
        }
        for (int size : new int[] {LOW, -1, 0, 7, 32, 33, HIGH}) {
            CHECK.is("type(0, " + size + ", 0)", heap.type(0, size, 0), false);
        }
        for (int size = 1; size <= 6; size++) {
            int full = (1 << size) - 1;
            CHECK.is("all bits of " + size, heap.type(3, size, full), true);
            CHECK.is("no bits of " + size, heap.type(3, size, 0), true);
            CHECK.is("a bit too high for " + size, heap.type(3, size, full + 1), false);
            CHECK.is("a bit far too high for " + size, heap.type(3, size, 1 << 30), false);
            CHECK.is("a map below 0 for " + size, heap.type(3, size, -1), false);
            CHECK.is("the lowest map for " + size, heap.type(3, size, LOW), false);
        }
        CHECK.is("type(2, 3, 4)", heap.type(2, 3, 4), true);
        CHECK.is("a refused change", heap.type(2, 2, 4), false);
        append(heap, i(9, 4, 2, 0), i(10, 18, 4, 0), i(1, 17, 6, 0));
        CHECK.runs(heap, 3, 3);
        CHECK.is("word(1, 2)", heap.word(1, 2), 1);
        CHECK.is("word(1, 3)", heap.word(1, 3), NO_WORD);
    }

    private static void typeWithBlocks() {
        CHECK.about("promise 2, blocks of the type");
        CountedHeap heap = program(i(9, 4, 1, 0), i(9, 5, 2, 0), i(11, 4, 0, 0));
        CHECK.runs(heap, 2, 2);
        CHECK.is("the same again", heap.type(1, 1, 0), false);
        CHECK.is("type 1 is used", heap.type(1, 2, 3), false);
        CHECK.is("type 2 is used", heap.type(2, 2, 3), false);
        CHECK.is("type 0 is free", heap.type(0, 2, 3), true);
        CHECK.is("type 3 is free", heap.type(3, 2, 3), true);
        CHECK.runs(heap, 1, 1);
        CHECK.is("type 1 is free again", heap.type(1, 2, 3), true);
        CHECK.is("type 2 is still used", heap.type(2, 2, 3), false);
    }

    private static void addAnswersPlaces() {
        CHECK.about("promise 3, places");
        CountedHeap heap = new CountedHeap();
        for (int op = 0; op <= 14; op++) {
            CHECK.is("add(" + op + ", 0, 0, 0)", heap.add(op, 0, 0, 0), op);
        }
        CHECK.is("nothing is done", heap.next(), 0);
    }

    private static void addRefusesOps() {
        CHECK.about("promise 3, ops");
        CountedHeap heap = new CountedHeap();
        for (int op : new int[] {LOW, -1, 15, 16, HIGH}) {
            CHECK.is("add(" + op + ", 0, 0, 0)", heap.add(op, 0, 0, 0), -1);
            CHECK.is("add(" + op + ", -1, -1, -1)", heap.add(op, -1, -1, -1), -1);
        }
        CHECK.is("clear", heap.clear(), 0);
    }

    // By op: 'o' an operand, 'p' a place, 't' a type, '-' any number.
    private static final String[] NUMBERS = {
        "---", "o--", "oo-", "ooo", "ooo", "ooo", "ooo", "p--", "po-", "ot-", "oo-", "o--", "ooo", "p--", "---"};

    private static boolean fits(char kind, int number) {
        switch (kind) {
            case 'o':
                return number >= 0 && number <= 7 || number >= 16 && number <= 47;
            case 'p':
                return number >= 0 && number <= 39;
            case 't':
                return number >= 0 && number <= 3;
            default:
                return true;
        }
    }

    private static void addRefusesNumbers() {
        CHECK.about("promise 3, numbers");
        for (int op = 0; op <= 14; op++) {
            for (int at = 0; at < 3; at++) {
                for (int number = -3; number <= 60; number++) {
                    addWith(op, at, number);
                }
                addWith(op, at, LOW);
                addWith(op, at, HIGH);
            }
        }
    }

    private static void addWith(int op, int at, int number) {
        CountedHeap heap = new CountedHeap();
        int x = at == 0 ? number : 0;
        int y = at == 1 ? number : 0;
        int z = at == 2 ? number : 0;
        boolean taken = fits(NUMBERS[op].charAt(at), number);
        CHECK.is("add(" + op + ", " + x + ", " + y + ", " + z + ")", heap.add(op, x, y, z), taken ? 0 : -2);
        CHECK.is("clear", heap.clear(), taken ? 1 : 0);
    }

    private static void addRefusesAFullProgram() {
        CHECK.about("promise 3, full");
        CountedHeap heap = new CountedHeap();
        for (int place = 0; place < 40; place++) {
            CHECK.is("add(0, ..)", heap.add(0, place, -place, HIGH), place);
        }
        CHECK.is("one more", heap.add(0, 0, 0, 0), -3);
        CHECK.is("one more with a wrong op", heap.add(15, 0, 0, 0), -1);
        CHECK.is("one more with a wrong number", heap.add(2, 8, 0, 0), -2);
        CHECK.is("clear", heap.clear(), 40);
        CHECK.is("the first again", heap.add(0, 0, 0, 0), 0);
    }

    private static void clear() {
        CHECK.about("promise 4");
        CountedHeap heap = program(i(9, 4, 0, 0), i(1, 2, 9, 0), i(13, 3, 0, 0));
        CHECK.runs(heap, 3, 3);
        CHECK.is("next", heap.next(), 3);
        CHECK.is("open", heap.open(), 1);
        CHECK.is("clear", heap.clear(), 3);
        CHECK.is("next", heap.next(), 0);
        CHECK.is("open", heap.open(), 0);
        CHECK.is("the frame stays", heap.frame(2), 9);
        CHECK.is("the heap stays", heap.root(0), 1);
        CHECK.runs(heap, 1, 0);
        CHECK.is("clear", heap.clear(), 0);
    }

    private static void start() {
        CHECK.about("promise 5");
        CountedHeap heap = program(i(13, 1, 0, 0), i(1, 0, 4, 0), i(1, 0, 5, 0));
        CHECK.runs(heap, 1, 1);
        for (int p : new int[] {LOW, -1, 40, 41, HIGH}) {
            CHECK.is("start(" + p + ")", heap.start(p), false);
            CHECK.is("next stays", heap.next(), 1);
            CHECK.is("open stays", heap.open(), 1);
        }
        CHECK.is("start(2)", heap.start(2), true);
        CHECK.is("next", heap.next(), 2);
        CHECK.is("open", heap.open(), 0);
        CHECK.runs(heap, 9, 1);
        CHECK.is("frame(0)", heap.frame(0), 5);
        CHECK.is("start(39), where no instruction is", heap.start(39), true);
        CHECK.is("next", heap.next(), 39);
        CHECK.runs(heap, 1, 0);
        CHECK.is("next stays", heap.next(), 39);
        CHECK.is("start(0)", heap.start(0), true);
        CHECK.is("next", heap.next(), 0);
    }

    private static void runCounts() {
        CHECK.about("promise 6");
        CountedHeap heap = program(i(1, 0, 1, 0), i(1, 1, 1, 0), i(0, 0, 0, 0), i(1, 2, 1, 0));
        CHECK.runs(heap, 0, 0);
        CHECK.is("next", heap.next(), 0);
        CHECK.runs(heap, 1, 1);
        CHECK.is("next", heap.next(), 1);
        CHECK.runs(heap, 500, 2);
        CHECK.is("next stays the halt", heap.next(), 2);
        CHECK.runs(heap, 0, 0);
        CHECK.runs(heap, 1, 1);
        CHECK.runs(heap, 500, 1);
        CHECK.is("next stays the halt", heap.next(), 2);
        CHECK.is("what is behind the halt is not done", heap.frame(2), 0);
        CHECK.is("start(3)", heap.start(3), true);
        CHECK.runs(heap, 7, 1);
        CHECK.is("next", heap.next(), 4);
        CHECK.runs(heap, 7, 0);
        CHECK.is("an instruction comes there", heap.add(1, 3, 8, 0), 4);
        CHECK.runs(heap, 7, 1);
        CHECK.is("frame(3)", heap.frame(3), 8);
        replace(heap, i(7, 0, 0, 0));
        CHECK.runs(heap, 500, 500);
        CHECK.runs(heap, 499, 499);
    }

    private static void runRefuses() {
        CHECK.about("promise 6, wrong numbers");
        CountedHeap heap = program(i(1, 0, 1, 0));
        for (int n : new int[] {LOW, -1, 501, HIGH}) {
            CHECK.faults(heap, n, ARGUMENT);
            CHECK.is("next", heap.next(), 0);
            CHECK.is("frame(0)", heap.frame(0), 0);
        }
    }

    private static void runKeepsWhatWasDone() {
        CHECK.about("promise 6, faults");
        CountedHeap heap = program(i(1, 0, 3, 0), i(9, 5, 0, 0), i(14, 0, 0, 0), i(1, 1, 3, 0));
        CHECK.faults(heap, 4, STATE);
        CHECK.is("frame(0)", heap.frame(0), 3);
        CHECK.is("root(1)", heap.root(1), 1);
        CHECK.is("frame(1)", heap.frame(1), 0);
        CHECK.is("next", heap.next(), 2);
        CHECK.faults(heap, 1, STATE);
        CHECK.is("next", heap.next(), 2);
        CHECK.runs(heap, 0, 0);
        CHECK.is("start(0)", heap.start(0), true);
        CHECK.runs(heap, 2, 2);
    }

    private static void nextAndOpen() {
        CHECK.about("promises 7 and 8");
        CountedHeap heap = new CountedHeap();
        for (int place = 0; place < 39; place++) {
            append(heap, i(1, 0, place, 0));
        }
        append(heap, i(13, 5, 0, 0));
        CHECK.runs(heap, 39, 39);
        CHECK.is("next", heap.next(), 39);
        CHECK.is("open", heap.open(), 0);
        CHECK.runs(heap, 1, 1);
        CHECK.is("next", heap.next(), 5);
        CHECK.is("open", heap.open(), 1);
        CHECK.runs(heap, 35, 35);
        CHECK.is("open", heap.open(), 2);
        replace(heap, i(7, 39, 0, 0));
        for (int place = 1; place < 39; place++) {
            append(heap, i(14, 0, 0, 0));
        }
        append(heap, i(13, 1, 0, 0));
        CHECK.runs(heap, 3, 3);
        CHECK.is("behind the last place", heap.next(), 40);
        CHECK.is("open", heap.open(), 0);
        CHECK.runs(heap, 3, 0);
        CHECK.is("next", heap.next(), 40);
    }

    private static void frameAndSet() {
        CHECK.about("promises 9 and 10");
        CountedHeap heap = new CountedHeap();
        int[] values = {LOW, HIGH, -1, 77};
        for (int k = 0; k < 4; k++) {
            CHECK.is("set(" + k + ", ..)", heap.set(k, values[k]), true);
        }
        for (int k : new int[] {LOW, -1, 4, 5, 16, HIGH}) {
            CHECK.is("set(" + k + ", 3)", heap.set(k, 3), false);
            CHECK.is("frame(" + k + ")", heap.frame(k), 0);
        }
        for (int k = 0; k < 4; k++) {
            CHECK.is("frame(" + k + ")", heap.frame(k), values[k]);
            CHECK.is("root(" + k + ")", heap.root(k), 0);
        }
    }

    private static void root() {
        CHECK.about("promise 11");
        CountedHeap heap = program(i(9, 7, 0, 0), i(9, 6, 0, 0), i(9, 5, 0, 0), i(10, 4, 6, 0), i(11, 6, 0, 0));
        CHECK.runs(heap, 5, 5);
        CHECK.is("root(0)", heap.root(0), 2);
        CHECK.is("root(1)", heap.root(1), 3);
        CHECK.is("root(2)", heap.root(2), 0);
        CHECK.is("root(3)", heap.root(3), 1);
        for (int k : new int[] {LOW, -1, 4, 7, HIGH}) {
            CHECK.is("root(" + k + ")", heap.root(k), -1);
        }
    }

    private static void blocksAndNumbers() {
        CHECK.about("promise 12");
        CountedHeap heap = program(i(9, 4, 0, 0), i(9, 5, 0, 0), i(9, 6, 0, 0), i(11, 5, 0, 0), i(9, 7, 0, 0),
            i(9, 5, 0, 0));
        int[] blocks = {1, 2, 3, 2, 3, 4};
        for (int due : blocks) {
            CHECK.runs(heap, 1, 1);
            CHECK.is("blocks", heap.blocks(), due);
        }
        CHECK.is("the least free number", heap.root(3), 2);
        CHECK.is("the next free number", heap.root(1), 4);
    }

    private static void countAndTypeOf() {
        CHECK.about("promises 13 and 14");
        CountedHeap heap = new CountedHeap();
        CHECK.is("type(3, 6, 63)", heap.type(3, 6, 63), true);
        append(heap, i(9, 4, 3, 0));
        for (int w = 0; w < 6; w++) {
            append(heap, i(10, 16 + w, 4, 0));
        }
        append(heap, i(10, 5, 4, 0), i(10, 6, 4, 0), i(10, 7, 4, 0), i(9, 5, 2, 0));
        CHECK.runs(heap, 10, 10);
        CHECK.is("count(1)", heap.count(1), 10);
        CHECK.runs(heap, 1, 1);
        CHECK.is("count(1)", heap.count(1), 9);
        CHECK.is("count(2)", heap.count(2), 1);
        CHECK.is("typeOf(1)", heap.typeOf(1), 3);
        CHECK.is("typeOf(2)", heap.typeOf(2), 2);
        for (int b : new int[] {LOW, -1, 0, 3, 24, 25, HIGH}) {
            CHECK.is("count(" + b + ")", heap.count(b), -1);
            CHECK.is("typeOf(" + b + ")", heap.typeOf(b), -1);
        }
    }

    private static void word() {
        CHECK.about("promise 15");
        CountedHeap heap = new CountedHeap();
        CHECK.is("type(0, 6, 42)", heap.type(0, 6, 42), true);
        append(heap, i(9, 4, 0, 0), i(1, 16, -1, 0), i(1, 18, LOW, 0), i(1, 20, HIGH, 0), i(9, 17, 1, 0),
            i(10, 21, 4, 0));
        CHECK.runs(heap, 6, 6);
        long[] due = {-1, 2, LOW, 0, HIGH, 1};
        for (int w = 0; w < 6; w++) {
            CHECK.is("word(1, " + w + ")", heap.word(1, w), due[w]);
        }
        for (int w : new int[] {LOW, -1, 6, 7, HIGH}) {
            CHECK.is("word(1, " + w + ")", heap.word(1, w), NO_WORD);
        }
        CHECK.is("word(2, 0)", heap.word(2, 0), 0);
        CHECK.is("word(2, 1)", heap.word(2, 1), NO_WORD);
        for (int b : new int[] {LOW, -1, 0, 3, 24, 25, HIGH}) {
            CHECK.is("word(" + b + ", 0)", heap.word(b, 0), NO_WORD);
        }
        replace(heap, i(11, 17, 0, 0), i(9, 5, 1, 0));
        CHECK.runs(heap, 1, 1);
        CHECK.is("nil", heap.word(1, 1), 0);
        CHECK.is("given back", heap.word(2, 0), NO_WORD);
    }

    private static void given() {
        CHECK.about("promise 16");
        CountedHeap heap = new CountedHeap();
        CHECK.is("type(0, 1, 1)", heap.type(0, 1, 1), true);
        append(heap, i(9, 4, 0, 0), i(7, 0, 0, 0));
        CHECK.runs(heap, 20, 20);
        CHECK.is("given", heap.given(), 9);
        replace(heap, i(10, 16, 4, 0), i(11, 4, 0, 0));
        CHECK.is("clear keeps it", heap.given(), 9);
        CHECK.runs(heap, 2, 2);
        CHECK.is("a lost block is not given back", heap.given(), 9);
        CHECK.is("lost changes nothing", heap.lost() == 1 && heap.given() == 9, true);
        CHECK.is("collect", heap.collect(), 1);
        CHECK.is("given", heap.given(), 10);
        CHECK.is("collect", heap.collect(), 0);
        CHECK.is("given", heap.given(), 10);
    }

    private static void lost() {
        CHECK.about("promise 17");
        CountedHeap heap = pairAndTail();
        CHECK.is("lost", heap.lost(), 0);
        replace(heap, i(11, 4, 0, 0));
        CHECK.runs(heap, 1, 1);
        CHECK.is("lost", heap.lost(), 2);
        CHECK.is("lost again", heap.lost(), 2);
        CHECK.is("blocks", heap.blocks(), 4);
        replace(heap, i(11, 7, 0, 0));
        CHECK.runs(heap, 1, 1);
        CHECK.is("what only lost ones point to is lost too", heap.lost(), 3);
        CHECK.is("blocks", heap.blocks(), 3);
    }

    private static void collect() {
        CHECK.about("promise 18");
        CountedHeap heap = pairAndTail();
        CHECK.is("nothing is lost", heap.collect(), 0);
        CHECK.is("blocks", heap.blocks(), 4);
        replace(heap, i(11, 4, 0, 0), i(11, 7, 0, 0), i(9, 5, 1, 0));
        CHECK.runs(heap, 2, 2);
        CHECK.is("collect", heap.collect(), 3);
        CHECK.is("given", heap.given(), 4);
        CHECK.is("blocks", heap.blocks(), 0);
        CHECK.is("lost", heap.lost(), 0);
        for (int b = 1; b <= 4; b++) {
            CHECK.is("count(" + b + ")", heap.count(b), -1);
        }
        CHECK.runs(heap, 1, 1);
        CHECK.is("the numbers are free", heap.root(1), 1);
        CHECK.is("a new count", heap.count(1), 1);
        CHECK.is("emptied words", heap.word(1, 0) == 0 && heap.word(1, 1) == 0, true);
    }

    private static void collectTakesCountsOff() {
        CHECK.about("promise 18, counts of others");
        CountedHeap heap = pairAndTail();
        CHECK.is("count(3)", heap.count(3), 3);
        replace(heap, i(11, 4, 0, 0));
        CHECK.runs(heap, 1, 1);
        CHECK.is("count(3)", heap.count(3), 3);
        CHECK.is("collect", heap.collect(), 2);
        CHECK.is("count(3)", heap.count(3), 1);
        CHECK.is("count(4)", heap.count(4), 1);
        CHECK.is("blocks", heap.blocks(), 2);
        CHECK.is("root(3)", heap.root(3), 4);
        replace(heap, i(11, 7, 0, 0));
        CHECK.runs(heap, 1, 1);
        CHECK.is("the rest goes by its counts", heap.blocks(), 0);
        CHECK.is("given", heap.given(), 4);
    }

    /** Blocks 1 and 2 point to one another and each to 3; 4 points to 3; P0 points to 1, P3 to 4. */
    private static CountedHeap pairAndTail() {
        CountedHeap heap = new CountedHeap();
        CHECK.is("type(1, 3, 6)", heap.type(1, 3, 6), true);
        append(heap, i(9, 4, 1, 0), i(9, 5, 1, 0), i(10, 17, 5, 0), i(10, 25, 4, 0), i(9, 6, 1, 0),
            i(10, 18, 6, 0), i(10, 26, 6, 0), i(9, 7, 1, 0), i(10, 41, 6, 0), i(11, 5, 0, 0), i(11, 6, 0, 0));
        CHECK.runs(heap, 11, 11);
        return heap;
    }

    private static void lastBlock() {
        CHECK.about("a ring of 24 blocks, promises 2, 17 and 18");
        CountedHeap heap = ringOfTwoTypes();
        CHECK.is("blocks", heap.blocks(), 24);
        CHECK.is("typeOf(24)", heap.typeOf(24), 1);
        CHECK.is("type 1 is used by block 24", heap.type(1, 1, 0), false);
        CHECK.is("lost", heap.lost(), 0);
        replace(heap, i(11, 4, 0, 0), i(11, 6, 0, 0), i(11, 5, 0, 0));
        CHECK.runs(heap, 2, 2);
        CHECK.is("lost", heap.lost(), 0);
        CHECK.runs(heap, 1, 1);
        CHECK.is("lost", heap.lost(), 24);
        CHECK.is("given", heap.given(), 0);
        CHECK.is("collect", heap.collect(), 24);
        CHECK.is("given", heap.given(), 24);
        CHECK.is("blocks", heap.blocks(), 0);
        CHECK.is("count(24)", heap.count(24), -1);
        CHECK.is("type 1 is free", heap.type(1, 1, 0), true);
    }

    /** Each block points to the one before, block 1 to 24; only 24 is of type 1; P0 and P1 point to 24, P2 to 1. */
    private static CountedHeap ringOfTwoTypes() {
        CountedHeap heap = new CountedHeap();
        CHECK.is("type(0, 1, 1)", heap.type(0, 1, 1), true);
        CHECK.is("type(1, 1, 1)", heap.type(1, 1, 1), true);
        append(heap, i(9, 4, 0, 0), i(10, 6, 4, 0));
        CHECK.runs(heap, 2, 2);
        replace(heap, i(9, 5, 0, 0), i(10, 24, 4, 0), i(10, 4, 5, 0), i(7, 0, 0, 0));
        CHECK.runs(heap, 4 * 22, 4 * 22);
        replace(heap, i(9, 5, 1, 0), i(10, 24, 4, 0), i(10, 4, 5, 0), i(10, 32, 4, 0));
        CHECK.runs(heap, 4, 4);
        return heap;
    }

    private static void objectsAreApart() {
        CHECK.about("two objects");
        CountedHeap one = new CountedHeap();
        CountedHeap other = new CountedHeap();
        CHECK.is("set", one.set(0, 9), true);
        CHECK.is("type", one.type(0, 2, 3), true);
        append(one, i(9, 4, 0, 0));
        CHECK.runs(one, 1, 1);
        CHECK.is("frame(0)", other.frame(0), 0);
        CHECK.is("blocks", other.blocks(), 0);
        CHECK.is("add", other.add(9, 4, 0, 0), 0);
        CHECK.runs(other, 1, 1);
        CHECK.is("word(1, 1)", other.word(1, 1), NO_WORD);
    }
}

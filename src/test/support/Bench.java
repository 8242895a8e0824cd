/** What the tests share: the names of numbers and faults, ways to do instructions, and the picture of an object. */
class Bench {
    static final Check CHECK = new Check();

    static final int LOW = Integer.MIN_VALUE;
    static final int HIGH = Integer.MAX_VALUE;
    static final long NO_WORD = 4294967296L;

    static final Class<?> STATE = IllegalStateException.class;
    static final Class<?> INDEX = IndexOutOfBoundsException.class;
    static final Class<?> ARGUMENT = IllegalArgumentException.class;
    static final Class<?> UNSUPPORTED = UnsupportedOperationException.class;

    static int[] i(int op, int x, int y, int z) {
        return new int[] {op, x, y, z};
    }

    static CountedHeap program(int[]... instructions) {
        CountedHeap heap = new CountedHeap();
        append(heap, instructions);
        return heap;
    }

    static void append(CountedHeap heap, int[]... instructions) {
        for (int[] i : instructions) {
            CHECK.is("add(" + i[0] + ", ..) is taken", heap.add(i[0], i[1], i[2], i[3]) >= 0, true);
        }
    }

    static void replace(CountedHeap heap, int[]... instructions) {
        heap.clear();
        append(heap, instructions);
    }

    static void doAll(CountedHeap heap, int[]... instructions) {
        replace(heap, instructions);
        CHECK.runs(heap, instructions.length, instructions.length);
    }

    /** The instruction alone: it throws what is due, changes nothing, and the next run begins with it again. */
    static void fault(CountedHeap heap, int[] instruction, Class<?> due) {
        replace(heap, instruction);
        String before = picture(heap);
        CHECK.faults(heap, 1, due);
        CHECK.faults(heap, 500, due);
        CHECK.is("after a fault", picture(heap), before);
    }

    /** Blocks 1 .. length of type 0 (one pointer), each pointing to the one before; P0 and P1 point to the last. */
    static CountedHeap chain(int length) {
        CountedHeap heap = new CountedHeap();
        CHECK.is("type(0, 1, 1)", heap.type(0, 1, 1), true);
        replace(heap, i(9, 5, 0, 0), i(10, 24, 4, 0), i(10, 4, 5, 0), i(7, 0, 0, 0));
        CHECK.runs(heap, 4 * length - 1, 4 * length - 1);
        return heap;
    }

    /** 24 blocks of type 0, each pointing to the one before and block 1 to 24; P1 alone points to one, 24. */
    static CountedHeap ring() {
        CountedHeap heap = new CountedHeap();
        CHECK.is("type(0, 1, 1)", heap.type(0, 1, 1), true);
        doAll(heap, i(9, 4, 0, 0), i(10, 6, 4, 0));
        replace(heap, i(9, 5, 0, 0), i(10, 24, 4, 0), i(10, 4, 5, 0), i(7, 0, 0, 0));
        CHECK.runs(heap, 23 * 4, 23 * 4);
        doAll(heap, i(10, 32, 4, 0), i(11, 4, 0, 0), i(11, 6, 0, 0));
        return heap;
    }

    /**
     * All that can be asked of an object without a change, but for the types and the program. It asks no more than
     * it must, since an object is good for 512 calls: no words behind the first that there is none, and no blocks
     * behind the last.
     */
    static String picture(CountedHeap heap) {
        StringBuilder all = new StringBuilder();
        int blocks = heap.blocks();
        all.append("next ").append(heap.next()).append(" open ").append(heap.open());
        all.append(" blocks ").append(blocks).append(" given ").append(heap.given());
        all.append(" lost ").append(heap.lost());
        for (int k = 0; k < 4; k++) {
            all.append(" F").append(k).append(' ').append(heap.frame(k));
            all.append(" P").append(k).append(' ').append(heap.root(k));
        }
        int seen = 0;
        for (int b = 1; b <= 24 && seen < blocks; b++) {
            int count = heap.count(b);
            if (count != -1) {
                seen++;
                all.append(" block ").append(b).append(" of ").append(heap.typeOf(b));
                all.append(" count ").append(count).append(':');
                appendWords(heap, b, all);
            }
        }
        return all.toString();
    }

    private static void appendWords(CountedHeap heap, int b, StringBuilder all) {
        long word = heap.word(b, 0);
        for (int w = 1; w <= 6 && word != NO_WORD; w++) {
            all.append(' ').append(word);
            word = heap.word(b, w);
        }
    }
}

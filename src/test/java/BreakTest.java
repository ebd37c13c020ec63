/** Promise 5: everything by which the device breaks, and what it then leaves alone. */
public final class BreakTest {
    private static final int NEXT = Machine.NEXT;
    private static final int OPEN = Machine.OPEN;
    private static final int FLUSH = Machine.FLUSH;
    private static final long DATA = Machine.DATA;
    private static final long HEADS = Machine.HEADS;
    private static final long RESULT = Machine.RESULT;
    private static final long START = Machine.START;
    private static final long END = Machine.END;

    private interface Fault {
        void put(Machine m);
    }

    public static void main(String[] args) {
        tooFarAhead();
        countThatWentBack();
        blockNumbers();
        blocksBehindTheQueue();
        numbersWithoutSign();
        refusedMark();
        otherMarks();
        asManyBlocksAsTheSize();
        blocksInARing();
        closedBehindOpen();
        firstBlockClosed();
        firstBlockOfSixteen();
        lastBlockOpen();
        lastBlockEmpty();
        sizeOne();
        bytesOfBlocks();
        bytesOfTheFirstBlock();
        bytesOfTheLastBlock();
        everyByteCounts();
        placesOfTheTable();
        placesOfTheOffers();
        offersReadWhenNothingIsOffered();
        laterOffers();
        placesOfTheAnswers();
        answersNeededOnlyForAnswers();
        nothingIsDone();
        earlierRequestsStand();
        stopsWorking();
        stateAndCauses();
        staysBroken();
        Check.end();
    }

    private static Machine ready(int size) {
        Machine m = new Machine(1, size);
        m.two(FLUSH, 0);
        return m;
    }

    private static void judge(Machine m, String what, boolean fits) {
        if (fits) {
            m.expectAnswered(what, 1);
            Check.same(what + ": count", m.answerCount(), 1);
        } else {
            m.expectBroken(what);
            Check.same(what + ": result is left", m.disk.load(RESULT, 1), 99);
        }
    }

    /** "If it is ahead of that by more than n, the device BREAKS." */
    private static void tooFarAhead() {
        for (int size = 2; size <= 16; size *= 2) {
            int[] counts = {size, size + 1, 2 * size, 100, 255, 256, 32767, 32768, 65534, 65535};
            for (int c : counts) {
                Machine m = ready(size);
                m.disk.store(m.offers + 2, 2, c);
                m.kick();
                if (c == size) {
                    m.expectAnswered("as many as the size " + size, size);
                } else {
                    m.expectBroken("ahead by " + c + " of " + size);
                }
            }
        }
        Machine m = new Machine(1, 1);
        m.disk.store(m.offers + 2, 2, 2);
        m.kick();
        m.expectBroken("ahead by 2 of 1");
    }

    /** "Counts go round at 65536": one that went back is ahead by nearly as much. */
    private static void countThatWentBack() {
        for (int back = 1; back <= 3; back++) {
            Machine m = ready(16);
            m.offer(0);
            m.offer(0);
            m.offerAndKick(0);
            m.expectAnswered("three", 3);
            m.disk.store(m.offers + 2, 2, 3 - back);
            m.disk.write(100, 1);
            m.kick();
            Check.same("back by " + back + ": state", m.disk.read(112), 79);
            Check.same("back by " + back + ": causes", m.disk.read(96), 2);
            Check.same("back by " + back + ": answered", m.disk.answered(), 3);
        }
    }

    /** "a block is n or more": the first one, or a next one. */
    private static void blockNumbers() {
        for (int size = 2; size <= 16; size *= 2) {
            int[] numbers = {size - 1, size, size + 1, 2 * size, 255, 256, 32767, 32768, 65535};
            for (int n : numbers) {
                Machine m = ready(size);
                m.block(size - 1, HEADS, 16, NEXT, 0);
                m.block(0, RESULT, 1, OPEN, 0);
                m.offerAndKick(n);
                judge(m, "first block " + n + " of " + size, n == size - 1);
                m = ready(size);
                m.block(0, HEADS, 16, NEXT, n);
                m.block(size - 1, RESULT, 1, OPEN, 0);
                m.offerAndKick(0);
                judge(m, "next block " + n + " of " + size, n == size - 1);
            }
        }
        int[] numbers = {4, 256, 32768, 65535};
        for (int n : numbers) {
            Machine m = ready(4);
            m.block(1, RESULT, 1, OPEN, n);
            m.offerAndKick(0);
            judge(m, "a next one that is not there is not looked at, " + n, true);
        }
    }

    /** The same where good blocks stand in memory behind those of the queue. */
    private static void blocksBehindTheQueue() {
        int[] numbers = {4, 5, 7, 8, 12, 16, 17, 20, 255, 256, 257, 260, 1000};
        for (int n : numbers) {
            Machine m = new Machine(1, 4, START, END - 64, END - 256);
            m.two(FLUSH, 0);
            m.blockAt(START + 16L * n, HEADS, 16, NEXT, 1);
            m.offerAndKick(n);
            judge(m, "a good block " + n, false);
            m = new Machine(1, 4, START, END - 64, END - 256);
            m.two(FLUSH, 0);
            m.block(0, HEADS, 16, NEXT, n);
            m.blockAt(START + 16L * n, RESULT, 1, OPEN, 0);
            m.offerAndKick(0);
            judge(m, "a good next block " + n, false);
        }
    }

    /** "Numbers are without sign.": 65535 is not the block before the first one. */
    private static void numbersWithoutSign() {
        int[] numbers = {65535, 65534, 255, 254};
        for (int n : numbers) {
            int before = n > 255 ? 65536 - n : 256 - n;
            Machine m = ready(4);
            m.blockAt(m.blocks - 16L * before, HEADS, 16, NEXT, 1);
            m.offerAndKick(n);
            judge(m, "first block " + n, false);
            m = ready(4);
            m.block(0, HEADS, 16, NEXT, n);
            m.blockAt(m.blocks - 16L * before, RESULT, 1, OPEN, 0);
            m.offerAndKick(0);
            judge(m, "next block " + n, false);
        }
        int[] rounds = {256, 512, 32768, 65280};
        for (int n : rounds) {
            Machine m = ready(4);
            m.offerAndKick(n);
            judge(m, "first block " + n + " is not block 0", false);
            m = ready(4);
            m.block(0, HEADS, 16, NEXT, n + 1);
            m.offerAndKick(0);
            judge(m, "next block " + (n + 1) + " is not block 1", false);
        }
    }

    /** "has the mark 4" */
    private static void refusedMark() {
        for (int at = 0; at < 3; at++) {
            Machine m = new Machine(1, 4);
            m.three(FLUSH, 0, 8, false);
            long marks = m.blocks + 16L * at + 12;
            m.disk.store(marks, 2, m.disk.load(marks, 2) | 4);
            m.offerAndKick(0);
            judge(m, "mark 4 at " + at, false);
        }
    }

    /** "others are not looked at, but 4" */
    private static void otherMarks() {
        for (int bit = 3; bit < 16; bit++) {
            withMarks(1 << bit);
        }
        withMarks(0xFFF8);
    }

    private static void withMarks(int others) {
        Machine m = new Machine(1, 4);
        m.three(FLUSH, 0, 8, false);
        for (int at = 0; at < 3; at++) {
            long marks = m.blocks + 16L * at + 12;
            m.disk.store(marks, 2, m.disk.load(marks, 2) | others);
        }
        m.offerAndKick(0);
        judge(m, "other marks " + others, true);
    }

    /** "comes behind n others of its request": the last of n does not. */
    private static void asManyBlocksAsTheSize() {
        for (int size = 2; size <= 16; size *= 2) {
            for (int closed = 1; closed < size; closed++) {
                Machine m = new Machine(1, size);
                m.head(HEADS, FLUSH, 0);
                for (int k = 0; k < size; k++) {
                    boolean open = k >= closed;
                    int marks = (open ? OPEN : 0) | (k < size - 1 ? NEXT : 0);
                    m.block(k, open ? RESULT : HEADS, 16, marks, k + 1);
                }
                m.offerAndKick(0);
                judge(m, size + " blocks, closed " + closed, true);
            }
        }
    }

    private static void blocksInARing() {
        for (int size = 1; size <= 16; size *= 2) {
            for (int back = 0; back < size; back++) {
                Machine m = new Machine(1, size);
                m.head(HEADS, FLUSH, 0);
                m.disk.store(RESULT, 1, 99);
                for (int k = 0; k < size; k++) {
                    // Behind the last one comes an earlier one; from it on all are of one sort.
                    boolean open = k >= back && k > 0;
                    m.block(k, HEADS, 16, open ? NEXT | OPEN : NEXT, k == size - 1 ? back : k + 1);
                }
                m.offerAndKick(0);
                judge(m, "ring of " + size + " back to " + back, false);
            }
            Machine m = new Machine(1, size);
            m.head(HEADS, FLUSH, 0);
            m.disk.store(RESULT, 1, 99);
            for (int k = 0; k < size; k++) {
                m.block(k, HEADS, 16, NEXT, (k + 1) % size);
            }
            m.offerAndKick(0);
            judge(m, "closed ring of " + size, false);
        }
    }

    /** "or is closed behind an open one" */
    private static void closedBehindOpen() {
        for (int length = 0; length <= 8; length += 8) {
            Machine m = new Machine(1, 4);
            m.disk.store(RESULT, 1, 99);
            m.head(HEADS, FLUSH, 0);
            m.block(0, HEADS, 16, NEXT, 1);
            m.block(1, DATA, length, NEXT | OPEN, 2);
            m.block(2, DATA, length, NEXT, 3);
            m.block(3, RESULT, 1, OPEN, 0);
            m.offerAndKick(0);
            judge(m, "closed behind open, both of length " + length, false);
            m = new Machine(1, 4);
            m.disk.store(RESULT, 1, 99);
            m.head(HEADS, FLUSH, 0);
            m.block(0, HEADS, 16, NEXT, 1);
            m.block(1, DATA, length, NEXT, 2);
            m.block(2, DATA, length, NEXT | OPEN, 3);
            m.block(3, RESULT, 1, OPEN, 0);
            m.offerAndKick(0);
            judge(m, "open behind closed, both of length " + length, true);
        }
        Machine m = new Machine(1, 4);
        m.disk.store(RESULT, 1, 99);
        m.head(HEADS, FLUSH, 0);
        m.block(0, HEADS, 16, NEXT, 1);
        m.block(1, RESULT, 1, NEXT | OPEN, 2);
        m.block(2, DATA, 16, 0, 0);
        m.offerAndKick(0);
        judge(m, "closed at last behind open", false);
    }

    /** "or the first one of a request is not closed" */
    private static void firstBlockClosed() {
        Machine m = ready(4);
        m.block(0, HEADS, 16, NEXT | OPEN, 1);
        m.offerAndKick(0);
        judge(m, "first one open, with a next one", false);
        m = ready(4);
        m.block(0, HEADS, 17, OPEN, 1);
        m.offerAndKick(0);
        judge(m, "first one open, and the only one", false);
    }

    /** "or shorter than 16" */
    private static void firstBlockOfSixteen() {
        for (int n = 0; n <= 33; n++) {
            Machine m = ready(4);
            m.block(0, HEADS, n, NEXT, 1);
            m.offerAndKick(0);
            judge(m, "first of length " + n, n >= 16);
        }
        // Sixteen bytes of two blocks together are not sixteen of the first.
        Machine m = new Machine(1, 4);
        m.three(FLUSH, 0, 8, false);
        m.block(0, HEADS, 8, NEXT, 1);
        m.block(1, HEADS + 8, 8, NEXT, 2);
        m.offerAndKick(0);
        judge(m, "head in two blocks", false);
    }

    /** "or the last one not open" */
    private static void lastBlockOpen() {
        Machine m = ready(4);
        m.block(1, RESULT, 1, 0, 0);
        m.offerAndKick(0);
        judge(m, "last one closed", false);
        m = ready(4);
        m.block(0, HEADS, 16, 0, 1);
        m.offerAndKick(0);
        judge(m, "only a head", false);
    }

    /** "or empty" */
    private static void lastBlockEmpty() {
        long[] places = {RESULT, 0, -1, END};
        for (long place : places) {
            Machine m = ready(4);
            m.block(1, place, 0, OPEN, 0);
            m.offerAndKick(0);
            judge(m, "last one empty", false);
        }
        Machine m = ready(4);
        m.block(1, RESULT, 1, NEXT | OPEN, 2);
        m.block(2, RESULT, 0, OPEN, 0);
        m.offerAndKick(0);
        judge(m, "an empty one behind a full one", false);
        m = ready(4);
        m.block(1, RESULT, 0, NEXT | OPEN, 2);
        m.block(2, RESULT, 1, OPEN, 0);
        m.offerAndKick(0);
        judge(m, "a full one behind an empty one", true);
    }

    /** One block cannot be closed and open: with a size of 1 every request breaks the device. */
    private static void sizeOne() {
        int[] marks = {0, NEXT, OPEN, NEXT | OPEN};
        for (int mark : marks) {
            Machine m = new Machine(1, 1);
            m.disk.store(RESULT, 1, 99);
            m.block(0, HEADS, 16, mark, 0);
            m.kick();
            m.expectAnswered("size 1, nothing offered", 0);
            m.offerAndKick(0);
            judge(m, "one block with marks " + mark, false);
        }
    }

    /** "Whenever a byte that has to be read or written is not in memory"; "(A block with length 0 has no byte. ..)" */
    private static void bytesOfBlocks() {
        for (int open = 0; open < 2; open++) {
            int marks = open == 1 ? NEXT | OPEN : NEXT;
            middle(marks, START, 16, true);
            middle(marks, START, 1, true);
            middle(marks, START - 1, 1, false);
            middle(marks, START - 1, 16, false);
            middle(marks, START - 16, 16, false);
            middle(marks, END - 1, 1, true);
            middle(marks, END - 1, 2, false);
            middle(marks, END, 1, false);
            middle(marks, END - 16, 16, true);
            middle(marks, END - 15, 16, false);
            middle(marks, START, 65535, true);
            middle(marks, START, 65536, true);
            middle(marks, START, 65537, false);
            middle(marks, START + 1, 65535, true);
            middle(marks, START + 1, 65536, false);
            middle(marks, START - 1, 65538, false);
            middle(marks, START, 4294967295L, false);
            middle(marks, START, 4294901760L, false);
            middle(marks, START, 2147483648L, false);
            middle(marks, START, 2147483647L, false);
            middle(marks, END - 1, 4294967295L, false);
            middle(marks, 0, 1, false);
            middle(marks, 0, 4294967295L, false);
            middle(marks, -1, 1, false);
            middle(marks, -1, 4294967295L, false);
            middle(marks, START | 1L << 32, 1, false);
            middle(marks, START | 1L << 63, 1, false);
            middle(marks, -START, 1, false);
            middle(marks, (int) START, 1, false);
            middle(marks, Long.MIN_VALUE, 1, false);
            middle(marks, Long.MIN_VALUE + START, 1, false);
            middle(marks, Long.MAX_VALUE, 1, false);
            long[] anywhere = {0, -1, END, START - 1, START, Long.MAX_VALUE, Long.MIN_VALUE};
            for (long address : anywhere) {
                middle(marks, address, 0, true);
            }
        }
    }

    private static void middle(int marks, long address, long length, boolean fits) {
        Machine m = new Machine(1, 4);
        m.three(FLUSH, 0, 0, false);
        m.block(1, address, length, marks, 2);
        m.offerAndKick(0);
        judge(m, "block at " + address + " of " + length + " with marks " + marks, fits);
    }

    private static void bytesOfTheFirstBlock() {
        long[][] placesAndLengths = {{START, 16, 1}, {START - 1, 17, 0}, {START - 1, 16, 0}, {END - 16, 16, 1},
            {END - 16, 17, 0}, {END - 15, 16, 0}, {END - 17, 17, 1}, {END, 16, 0}, {0, 16, 0}, {-16, 16, 0},
            {START | 1L << 40, 16, 0}, {START, 65536, 1}, {START, 65537, 0}, {HEADS, 4294967295L, 0}};
        for (long[] row : placesAndLengths) {
            Machine m = ready(4);
            m.block(0, row[0], row[1], NEXT, 1);
            m.offerAndKick(0);
            judge(m, "head at " + row[0] + " of " + row[1], row[2] == 1);
        }
    }

    private static void bytesOfTheLastBlock() {
        long[][] placesAndLengths = {{START, 1, 1}, {START - 1, 1, 0}, {START - 1, 2, 0}, {END - 1, 1, 1}, {END - 2, 2, 1},
            {END - 1, 2, 0}, {END, 1, 0}, {0, 1, 0}, {-1, 1, 0}, {-1, 2, 0}, {START | 1L << 50, 1, 0},
            {RESULT, 4294967295L, 0}, {RESULT, 2147483648L, 0}};
        for (long[] row : placesAndLengths) {
            Machine m = ready(4);
            m.block(1, row[0], row[1], OPEN, 0);
            m.offerAndKick(0);
            judge(m, "last one at " + row[0] + " of " + row[1], row[2] == 1);
        }
    }

    /** "All bytes of all blocks have to be read or written": also where the kind does not touch them. */
    private static void everyByteCounts() {
        int[] kinds = {0, 1, 4, 8, 99};
        for (int kind : kinds) {
            for (int open = 0; open < 2; open++) {
                Machine m = new Machine(1, 4);
                m.three(kind, 5, 700, open == 1);
                m.disk.store(m.blocks + 16, 8, END - 699);
                m.offerAndKick(0);
                judge(m, "block over the end, kind " + kind, false);
            }
            Machine m = new Machine(1, 4);
            m.two(kind, 0);
            m.block(0, END - 16, 17, NEXT, 1);
            m.head(END - 16, kind, 0);
            m.offerAndKick(0);
            judge(m, "head over the end, kind " + kind, false);
            m = new Machine(1, 4);
            m.two(kind, 0);
            m.block(1, START - 1, 2, OPEN, 0);
            m.offerAndKick(0);
            judge(m, "a byte before the result is not in memory, kind " + kind, false);
        }
    }

    /** One flush, with the queue's three parts at these places. */
    private static void placed(String what, long blocks, long offers, long answers, boolean fits) {
        Machine m = new Machine(1, 2, blocks, offers, answers);
        m.head(HEADS, FLUSH, 0);
        m.disk.store(RESULT, 1, 99);
        put(m, blocks, HEADS, 8);
        put(m, blocks + 8, 16 | 1L << 32 | 1L << 48, 8);
        put(m, blocks + 16, RESULT, 8);
        put(m, blocks + 24, 1 | 2L << 32, 8);
        put(m, offers + 2, 1, 2);
        put(m, offers + 4, 0, 2);
        m.kick();
        judge(m, what, fits);
    }

    /** Puts those bytes of a number that are in memory. */
    private static void put(Machine m, long address, long v, int size) {
        for (int k = 0; k < size; k++) {
            if (address + k >= START && address + k < END) {
                m.disk.store(address + k, 1, v >>> 8 * k);
            }
        }
    }

    /** "The addresses of blocks, offers and answers are any." */
    private static void placesOfTheTable() {
        long o = Machine.OFFERS;
        long a = Machine.ANSWERS;
        placed("table at the start", START, o, a, true);
        placed("table at the end", END - 32, o, a, true);
        placed("table over the end by 1", END - 31, o, a, false);
        // A block is sixteen bytes, also where its number of the next one would not be used.
        placed("table over the end by 2", END - 30, o, a, false);
        placed("table over the end by 3", END - 29, o, a, false);
        placed("table over the end by 16", END - 16, o, a, false);
        placed("table behind the end", END, o, a, false);
        placed("table before the start by 1", START - 1, o, a, false);
        placed("table before the start by 16", START - 16, o, a, false);
        placed("table far off", START | 1L << 40, o, a, false);
        placed("table at the last addresses", -16L, o, a, false);
        placed("table at 0", 0, o, a, false);
        for (int k = 1; k <= 16; k++) {
            placed("table at an odd place", START + 77 + k, o, a, true);
        }
        // Only the blocks of the request have to be in memory.
        Machine m = new Machine(1, 16, END - 32, o, a);
        m.two(FLUSH, 0);
        m.offerAndKick(0);
        judge(m, "table of sixteen with two in memory", true);
    }

    private static void placesOfTheOffers() {
        long b = Machine.BLOCKS;
        long a = Machine.ANSWERS;
        placed("offers at the start", b, START, a, true);
        placed("offers before the start", b, START - 1, a, false);
        placed("offers' count at the start", b, START - 2, a, false);
        placed("offers' number at the start", b, START - 4, a, false);
        placed("offers whose second number is not in memory", b, END - 6, a, true);
        placed("offers whose number is half in memory", b, END - 5, a, false);
        placed("offers whose numbers are not in memory", b, END - 4, a, false);
        placed("offers whose count is half in memory", b, END - 3, a, false);
        placed("offers whose count is not in memory", b, END - 2, a, false);
        placed("offers at the end", b, END, a, false);
        placed("offers at an odd place", b, START + 33, a, true);
        placed("offers far off", b, START | 1L << 62, a, false);
        placed("offers at the last addresses", b, -2L, a, false);
        placed("offers at 0", b, 0, a, false);
    }

    /** "the marks and the count of the offers are read", even if nothing is offered. */
    private static void offersReadWhenNothingIsOffered() {
        for (int k = -5; k <= 5; k++) {
            Machine m = new Machine(1, 4, Machine.BLOCKS, START + k, Machine.ANSWERS);
            m.kick();
            judgeNothing(m, "offers from the start by " + k, k >= 0);
            m = new Machine(1, 4, Machine.BLOCKS, END - 4 + k, Machine.ANSWERS);
            m.kick();
            judgeNothing(m, "offers of four bytes at the end by " + k, k <= 0);
        }
        Machine m = new Machine(1, 4, Machine.BLOCKS, 0, Machine.ANSWERS);
        m.kick();
        judgeNothing(m, "offers at 0", false);
    }

    private static void judgeNothing(Machine m, String what, boolean fits) {
        if (fits) {
            m.expectAnswered(what, 0);
        } else {
            m.expectBroken(what);
        }
    }

    /** A number that is not in memory breaks the device when its turn comes, and not before. */
    private static void laterOffers() {
        for (int there = 1; there <= 3; there++) {
            Machine m = new Machine(1, 4, Machine.BLOCKS, END - 4 - 2 * there, Machine.ANSWERS);
            m.two(FLUSH, 0);
            m.disk.store(m.offers + 2, 2, 4);
            m.kick();
            Check.same("numbers in memory: answered", m.disk.answered(), there);
            Check.same("numbers in memory: causes", m.disk.read(96), 3);
            Check.same("numbers in memory: state", m.disk.read(112), 79);
        }
    }

    /** "and the answer and the count of answers, too" */
    private static void placesOfTheAnswers() {
        long b = Machine.BLOCKS;
        long o = Machine.OFFERS;
        placed("answers at the start", b, o, START, true);
        // The marks of the answers are neither read nor written.
        placed("answers whose marks are half in memory", b, o, START - 1, true);
        placed("answers whose marks are not in memory", b, o, START - 2, true);
        placed("answers whose count is half in memory", b, o, START - 3, false);
        placed("answers whose count is not in memory", b, o, START - 4, false);
        placed("answers whose number is half in memory", b, o, START - 6, false);
        placed("answers whose second place is not in memory", b, o, END - 12, true);
        placed("answers whose length is not all in memory", b, o, END - 11, false);
        placed("answers whose length is not in memory", b, o, END - 8, false);
        placed("answers with only a count in memory", b, o, END - 4, false);
        placed("answers with half a count in memory", b, o, END - 3, false);
        placed("answers at the end", b, o, END, false);
        placed("answers at an odd place", b, o, START + 5, true);
        placed("answers far off", b, o, START | 1L << 35, false);
        placed("answers at the last addresses", b, o, -4L, false);
        placed("answers at 0", b, o, 0, false);
        for (int there = 1; there <= 3; there++) {
            Machine m = new Machine(1, 4, b, o, END - 4 - 8 * there);
            m.two(FLUSH, 0);
            for (int k = 0; k < 4; k++) {
                m.offer(0);
            }
            m.kick();
            Check.same("answers in memory: answered", m.disk.answered(), there);
            Check.same("answers in memory: count", m.answerCount(), there);
            Check.same("answers in memory: causes", m.disk.read(96), 3);
            Check.same("answers in memory: state", m.disk.read(112), 79);
        }
    }

    private static void answersNeededOnlyForAnswers() {
        long[] places = {0, END, START - 4, -1, START | 1L << 35};
        for (long place : places) {
            Machine m = new Machine(1, 4, Machine.BLOCKS, Machine.OFFERS, place);
            m.kick();
            m.expectAnswered("no answer, no matter where", 0);
        }
    }

    /** "nothing of that request is done or written": a good request with one fault in it. */
    private static void nothingIsDone() {
        fault("a first block that is none", m -> m.disk.store(m.offers + 4, 2, 8));
        fault("a next block that is none", m -> m.disk.store(m.blocks + 30, 2, 8));
        fault("mark 4 on the first", m -> m.disk.store(m.blocks + 12, 1, 5));
        fault("mark 4 on the last", m -> m.disk.store(m.blocks + 44, 1, 6));
        fault("the last one closed", m -> m.disk.store(m.blocks + 44, 1, 0));
        fault("the last one empty", m -> m.disk.store(m.blocks + 40, 4, 0));
        fault("the last one in a ring", m -> m.disk.store(m.blocks + 44, 4, 3 | 2 << 16));
        fault("closed behind the last", m -> {
            m.disk.store(m.blocks + 44, 4, 3 | 3 << 16);
            m.block(3, DATA, 0, 0, 0);
        });
        fault("the last one not in memory", m -> m.disk.store(m.blocks + 32, 8, END));
        fault("the last one too long", m -> m.disk.store(m.blocks + 40, 4, 4294967295L));
        fault("the first one open", m -> m.disk.store(m.blocks + 12, 1, 3));
        fault("the first one short", m -> m.disk.store(m.blocks + 8, 4, 15));
        fault("too far ahead", m -> m.disk.store(m.offers + 2, 2, 9));
        faultOfAnswers("an answer not in memory", END - 11);
        faultOfAnswers("a count of answers not in memory", START - 3);
    }

    private static void fault(String what, Fault fault) {
        for (int kind = 0; kind <= 8; kind++) {
            Machine m = new Machine(1, 8);
            spoil(m, kind);
            fault.put(m);
            m.kick();
            expectLeft(m, what + ", kind " + kind);
            Check.same(what + ": marks and count of answers", m.disk.load(m.answers, 4), 0x77777777);
            Check.same(what + ": the answer", m.disk.load(m.answers + 4, 8), 0x7777777777777777L);
        }
    }

    private static void faultOfAnswers(String what, long answers) {
        for (int kind = 0; kind <= 8; kind++) {
            Machine m = new Machine(1, 8, Machine.BLOCKS, Machine.OFFERS, answers);
            spoil(m, kind);
            m.disk.store(START, 8, 0x7777777777777777L);
            m.disk.store(END - 8, 8, 0x7777777777777777L);
            m.kick();
            expectLeft(m, what + ", kind " + kind);
            Check.same(what + ": the start", m.disk.load(START, 8), 0x7777777777777777L);
            Check.same(what + ": the end", m.disk.load(END - 8, 8), 0x7777777777777777L);
        }
    }

    private static void spoil(Machine m, int kind) {
        m.disk.setDisk(0, 5);
        m.three(kind, 0, 512, kind != Machine.WRITE);
        m.disk.store(DATA, 8, 0x6666666666666666L);
        m.disk.store(Machine.ANSWERS, 8, 0x7777777777777777L);
        m.disk.store(Machine.ANSWERS + 8, 8, 0x7777777777777777L);
        m.offer(0);
    }

    private static void expectLeft(Machine m, String what) {
        m.expectBroken(what);
        Check.same(what + ": disk", m.disk.disk(0), 5);
        Check.same(what + ": data", m.disk.load(DATA, 8), 0x6666666666666666L);
        Check.same(what + ": result", m.result(), 99);
    }

    /** Only "that request" is not done: those before it are, and stay answered. */
    private static void earlierRequestsStand() {
        Machine m = new Machine(1, 8);
        m.three(Machine.WRITE, 0, 512, false);
        m.disk.store(DATA, 1, 61);
        m.offer(0);
        m.offerAndKick(8);
        Check.same("state", m.disk.read(112), 79);
        Check.same("causes", m.disk.read(96), 3);
        Check.same("disk", m.disk.disk(0), 61);
        Check.same("result", m.result(), 0);
        Check.same("answered", m.disk.answered(), 1);
        Check.same("changed", m.disk.changed(), 1);
        Check.same("count of answers", m.answerCount(), 1);
        Check.same("length of the answer", m.answerLength(0), 1);
        Check.same("no second answer", m.disk.load(m.answers + 12, 8), 0);
    }

    /** "and it stops working": good requests behind the broken one are not taken. */
    private static void stopsWorking() {
        for (int good = 0; good < 3; good++) {
            Machine m = ready(8);
            for (int k = 0; k < 6; k++) {
                m.offer(k == good ? 8 : 0);
            }
            m.kick();
            Check.same("good ones before: answered", m.disk.answered(), good);
            Check.same("good ones before: count", m.answerCount(), good);
            Check.same("good ones before: state", m.disk.read(112), 79);
            m.kick();
            Check.same("and none later", m.disk.answered(), good);
        }
    }

    /** "the state gets bit 6, causes bit 1": the other bits of both stay. */
    private static void stateAndCauses() {
        int[] states = {4, 5, 7, 15, 0xBF, 0x84};
        for (int state : states) {
            for (int before = 0; before < 2; before++) {
                Machine m = ready(4);
                m.disk.write(112, state);
                if (before == 1) {
                    m.offerAndKick(0);
                }
                m.offerAndKick(4);
                Check.same("state " + state, m.disk.read(112), state | 64);
                Check.same("causes", m.disk.read(96), 2 | before);
                Check.same("ready", m.disk.read(68), 1);
            }
        }
    }

    private static void staysBroken() {
        Machine m = ready(4);
        m.offerAndKick(9);
        m.expectBroken("broken");
        m.disk.store(m.offers + 4, 2, 0);
        m.kick();
        m.expectBroken("mended, but not reset");
        m.disk.write(112, 15);
        m.kick();
        m.expectBroken("state written anew");
        m.disk.write(68, 0);
        m.disk.write(68, 1);
        m.kick();
        m.expectBroken("made ready anew");
        m.disk.write(100, 2);
        m.kick();
        Check.same("no cause by that", m.disk.line(), false);
        m.disk.write(112, 0);
        m.setUp();
        m.kick();
        m.expectAnswered("after a reset", 1);
    }
}

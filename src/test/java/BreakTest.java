/** Promise 5: everything by which the device breaks, and what it then leaves alone. */
public final class BreakTest {
    private static final int NEXT = Machine.NEXT;
    private static final int OPEN = Machine.OPEN;
    private static final long DATA = Machine.DATA;
    private static final long HEADS = Machine.HEADS;
    private static final long RESULT = Machine.RESULT;
    private static final long START = Machine.START;
    private static final long END = Machine.END;

    public static void main(String[] args) {
        tooFarAhead();
        blockNumbers();
        refusedMark();
        otherMarks();
        tooManyBlocks();
        closedBehindOpen();
        firstBlock();
        lastBlock();
        bytesOfBlocks();
        everyByteCounts();
        placesOfTheTable();
        placesOfTheOffers();
        placesOfTheAnswers();
        nothingIsDone();
        brokenStaysBroken();
        sizeOne();
        Check.end();
    }

    private static Machine ready(int size) {
        Machine m = new Machine(1, size);
        m.two(4, 0);
        return m;
    }

    private static void judge(Machine m, String what, boolean fits) {
        if (fits) {
            m.expectAnswered(what, 1);
        } else {
            m.expectBroken(what);
            Check.same(what + ": result is left", m.disk.load(RESULT, 1), 99);
        }
    }

    private static void tooFarAhead() {
        for (int size = 2; size <= 16; size *= 2) {
            int[] counts = {size, size + 1, 100, 32768, 65535};
            for (int c : counts) {
                Machine m = ready(size);
                m.disk.store(m.offers + 2, 2, c);
                m.kick();
                if (c == size) {
                    m.expectAnswered("as many as the size " + size, size);
                } else {
                    m.expectBroken("ahead by " + c + " of " + size);
                }
            }
        }
        Machine m = ready(4);
        m.offerAndKick(0);
        m.disk.store(m.offers + 2, 2, 0);
        m.disk.write(100, 1);
        m.kick();
        Check.same("a count that went back", m.disk.read(112), 79);
        Check.same("causes", m.disk.read(96), 2);
    }

    private static void blockNumbers() {
        int[] numbers = {3, 4, 5, 16, 255, 256, 32768, 65535};
        for (int n : numbers) {
            Machine m = ready(4);
            m.block(3, HEADS, 16, NEXT, 1);
            m.offerAndKick(n);
            judge(m, "first block " + n, n == 3);
            m = ready(4);
            m.block(0, HEADS, 16, NEXT, n);
            m.block(3, RESULT, 1, OPEN, 0);
            m.offerAndKick(0);
            judge(m, "next block " + n, n == 3);
        }
        Machine m = ready(4);
        m.block(1, RESULT, 1, OPEN, 65535);
        m.offerAndKick(0);
        judge(m, "a next one that is not there is not looked at", true);
    }

    private static void refusedMark() {
        for (int at = 0; at < 3; at++) {
            Machine m = new Machine(1, 4);
            m.three(4, 0, 8, false);
            long marks = m.blocks + 16L * at + 12;
            m.disk.store(marks, 2, m.disk.load(marks, 2) | 4);
            m.offerAndKick(0);
            judge(m, "mark 4 at " + at, false);
        }
    }

    private static void otherMarks() {
        Machine m = new Machine(1, 4);
        m.three(4, 0, 8, false);
        for (int at = 0; at < 3; at++) {
            long marks = m.blocks + 16L * at + 12;
            m.disk.store(marks, 2, m.disk.load(marks, 2) | 0xFFF8);
        }
        m.offerAndKick(0);
        judge(m, "other marks", true);
    }

    private static void tooManyBlocks() {
        for (int size = 2; size <= 16; size *= 2) {
            Machine m = new Machine(1, size);
            m.head(HEADS, 4, 0);
            m.disk.store(RESULT, 1, 99);
            for (int k = 0; k < size; k++) {
                m.block(k, HEADS, 16, NEXT, k + 1);
            }
            m.block(size - 1, RESULT, 1, OPEN, 0);
            m.offerAndKick(0);
            judge(m, "as many blocks as the size " + size, true);
            m = new Machine(1, size);
            m.head(HEADS, 4, 0);
            m.disk.store(RESULT, 1, 99);
            for (int k = 0; k < size; k++) {
                m.block(k, k == 0 ? HEADS : RESULT, 16, k == 0 ? NEXT : NEXT | OPEN, (k + 1) % size == 0 ? 1 : k + 1);
            }
            m.offerAndKick(0);
            judge(m, "blocks in a ring of size " + size, false);
        }
        Machine m = ready(4);
        m.block(0, HEADS, 16, NEXT, 0);
        m.offerAndKick(0);
        judge(m, "a block behind itself", false);
    }

    private static void closedBehindOpen() {
        Machine m = new Machine(1, 4);
        m.head(HEADS, 4, 0);
        m.disk.store(RESULT, 1, 99);
        m.block(0, HEADS, 16, NEXT, 1);
        m.block(1, DATA, 8, NEXT | OPEN, 2);
        m.block(2, DATA, 8, NEXT, 3);
        m.block(3, RESULT, 1, OPEN, 0);
        m.offerAndKick(0);
        judge(m, "closed behind open", false);
        m = new Machine(1, 4);
        m.disk.store(RESULT, 1, 99);
        m.head(HEADS, 4, 0);
        m.block(0, HEADS, 16, NEXT, 1);
        m.block(1, DATA, 0, NEXT | OPEN, 2);
        m.block(2, DATA, 0, NEXT, 3);
        m.block(3, RESULT, 1, OPEN, 0);
        m.offerAndKick(0);
        judge(m, "empty and closed behind empty and open", false);
    }

    private static void firstBlock() {
        long[] lengths = {0, 1, 15, 16, 17, 64};
        for (long n : lengths) {
            Machine m = ready(4);
            m.block(0, HEADS, n, NEXT, 1);
            m.offerAndKick(0);
            judge(m, "first of length " + n, n >= 16);
        }
        Machine m = ready(4);
        m.block(0, HEADS, 16, NEXT | OPEN, 1);
        m.offerAndKick(0);
        judge(m, "first one open", false);
    }

    private static void lastBlock() {
        Machine m = ready(4);
        m.block(1, RESULT, 0, OPEN, 0);
        m.offerAndKick(0);
        judge(m, "last one empty", false);
        m = ready(4);
        m.block(1, RESULT, 1, 0, 0);
        m.offerAndKick(0);
        judge(m, "last one closed", false);
        m = ready(4);
        m.block(0, HEADS, 16, 0, 1);
        m.offerAndKick(0);
        judge(m, "only a head", false);
        m = ready(4);
        m.block(0, HEADS, 17, OPEN, 1);
        m.offerAndKick(0);
        judge(m, "only an open block", false);
        m = ready(4);
        m.block(1, RESULT, 1, NEXT | OPEN, 2);
        m.block(2, RESULT, 0, OPEN, 0);
        m.offerAndKick(0);
        judge(m, "an empty one at last", false);
    }

    private static void bytesOfBlocks() {
        for (int open = 0; open < 2; open++) {
            int marks = open == 1 ? NEXT | OPEN : NEXT;
            middle(marks, START, 16, true);
            middle(marks, START - 1, 16, false);
            middle(marks, END - 16, 16, true);
            middle(marks, END - 15, 16, false);
            middle(marks, START, 65536, true);
            middle(marks, START, 65537, false);
            middle(marks, START + 1, 65536, false);
            middle(marks, START, 4294967295L, false);
            middle(marks, START, 2147483648L, false);
            middle(marks, 0, 1, false);
            middle(marks, -1, 1, false);
            middle(marks, -1, 4294967295L, false);
            middle(marks, START | 1L << 32, 1, false);
            middle(marks, START | 1L << 63, 1, false);
            middle(marks, Long.MIN_VALUE, 1, false);
            middle(marks, Long.MAX_VALUE, 1, false);
            middle(marks, 0, 0, true);
            middle(marks, -1, 0, true);
            middle(marks, END, 0, true);
            middle(marks, Long.MAX_VALUE, 0, true);
            middle(marks, Long.MIN_VALUE, 0, true);
        }
    }

    private static void middle(int marks, long address, long length, boolean fits) {
        Machine m = new Machine(1, 4);
        m.three(4, 0, 0, false);
        m.block(1, address, length, marks, 2);
        m.offerAndKick(0);
        judge(m, "block at " + address + " of " + length + " with marks " + marks, fits);
    }

    /** Blocks have to be in memory also where the kind would not touch them. */
    private static void everyByteCounts() {
        int[] kinds = {0, 1, 4, 8, 99};
        for (int kind : kinds) {
            Machine m = new Machine(1, 4);
            m.three(kind, 5, 700, true);
            m.block(1, END - 699, 700, NEXT | OPEN, 2);
            m.offerAndKick(0);
            judge(m, "open block over the end, kind " + kind, false);
            m = new Machine(1, 4);
            m.three(kind, 5, 700, false);
            m.block(1, END - 699, 700, NEXT, 2);
            m.offerAndKick(0);
            judge(m, "closed block over the end, kind " + kind, false);
            m = new Machine(1, 4);
            m.two(kind, 0);
            m.block(0, END - 16, 17, NEXT, 1);
            m.offerAndKick(0);
            judge(m, "head over the end, kind " + kind, false);
            m = new Machine(1, 4);
            m.two(kind, 0);
            m.block(1, END - 1, 2, OPEN, 0);
            m.offerAndKick(0);
            judge(m, "result over the end, kind " + kind, false);
        }
    }

    private static void placed(String what, long blocks, long offers, long answers, boolean fits) {
        Machine m = new Machine(1, 2, START, Machine.OFFERS, Machine.ANSWERS);
        m.disk.write(68, 0);
        m.setAddress(128, blocks);
        m.setAddress(144, offers);
        m.setAddress(160, answers);
        m.disk.write(68, 1);
        m.head(HEADS, 4, 0);
        m.disk.store(RESULT, 1, 99);
        put(m, blocks, HEADS, 8);
        put(m, blocks + 8, 16 | 1L << 32 | 1L << 48, 8);
        put(m, blocks + 16, RESULT, 8);
        put(m, blocks + 24, 1 | 2L << 32, 8);
        put(m, offers + 2, 1, 2);
        put(m, offers + 4, 0, 2);
        m.kick();
        judge(m, what, fits);
    }

    /** Puts those bytes of a number that are in memory. */
    private static void put(Machine m, long address, long v, int size) {
        for (int k = 0; k < size; k++) {
            if (address + k >= START && address + k < END) {
                m.disk.store(address + k, 1, v >>> 8 * k);
            }
        }
    }

    private static void placesOfTheTable() {
        long o = Machine.OFFERS;
        long a = Machine.ANSWERS;
        placed("table at the start", START, o, a, true);
        placed("table at the end", END - 32, o, a, true);
        placed("table over the end by 1", END - 31, o, a, false);
        // A block is sixteen bytes, also where its number of the next one would not be used.
        placed("table over the end by 2", END - 30, o, a, false);
        placed("table over the end by 16", END - 16, o, a, false);
        placed("table before the start", START - 1, o, a, false);
        placed("table at an odd place", START + 77, o, a, true);
        placed("table far off", START | 1L << 40, o, a, false);
        placed("table at the last addresses", -16L, o, a, false);
    }

    private static void placesOfTheOffers() {
        long b = Machine.BLOCKS;
        long a = Machine.ANSWERS;
        placed("offers at the start", b, START, a, true);
        placed("offers before the start", b, START - 1, a, false);
        placed("offers' count at the start", b, START - 2, a, false);
        placed("offers whose second number is not in memory", b, END - 6, a, true);
        placed("offers whose number is not in memory", b, END - 5, a, false);
        placed("offers whose numbers are not in memory", b, END - 4, a, false);
        placed("offers whose count is not in memory", b, END - 3, a, false);
        placed("offers at the end", b, END, a, false);
        placed("offers at an odd place", b, START + 33, a, true);
        placed("offers far off", b, START | 1L << 62, a, false);
        placed("offers at the last addresses", b, -2L, a, false);
        // The marks and the count have to be read even if nothing is offered.
        Machine m = new Machine(1, 4, Machine.BLOCKS, 0, Machine.ANSWERS);
        m.kick();
        m.expectBroken("no offers in memory");
        // No number has to be read where none is offered.
        m = new Machine(1, 4, Machine.BLOCKS, END - 4, Machine.ANSWERS);
        m.kick();
        m.expectAnswered("nothing offered at the end", 0);
        // The second number, when its turn comes.
        m = new Machine(1, 4, Machine.BLOCKS, END - 6, Machine.ANSWERS);
        m.two(4, 0);
        m.disk.store(END - 4, 2, 2);
        m.kick();
        Check.same("second number: answered", m.disk.answered(), 1);
        Check.same("second number: causes", m.disk.read(96), 3);
        Check.same("second number: state", m.disk.read(112), 79);
    }

    private static void placesOfTheAnswers() {
        long b = Machine.BLOCKS;
        long o = Machine.OFFERS;
        placed("answers at the start", b, o, START, true);
        placed("answers whose marks are not in memory", b, o, START - 2, true);
        placed("answers whose count is half in memory", b, o, START - 3, false);
        placed("answers whose count is not in memory", b, o, START - 4, false);
        placed("answers whose second place is not in memory", b, o, END - 12, true);
        placed("answers whose length is not all in memory", b, o, END - 11, false);
        placed("answers whose length is not in memory", b, o, END - 8, false);
        placed("answers with only a count in memory", b, o, END - 4, false);
        placed("answers at an odd place", b, o, START + 5, true);
        placed("answers far off", b, o, START | 1L << 35, false);
        placed("answers at the last addresses", b, o, -4L, false);
        Machine m = new Machine(1, 4, Machine.BLOCKS, Machine.OFFERS, 0);
        m.kick();
        m.expectAnswered("no answer, no matter where", 0);
        m = new Machine(1, 4, Machine.BLOCKS, Machine.OFFERS, END - 12);
        m.two(4, 0);
        m.offer(0);
        m.offerAndKick(0);
        Check.same("second answer: answered", m.disk.answered(), 1);
        Check.same("second answer: count", m.answerCount(), 1);
        Check.same("second answer: causes", m.disk.read(96), 3);
    }

    private static void nothingIsDone() {
        Machine m = new Machine(1, 4, Machine.BLOCKS, Machine.OFFERS, END - 11);
        m.disk.setDisk(0, 5);
        m.three(0, 0, 512, true);
        m.offerAndKick(0);
        m.expectBroken("reading with no place for the answer");
        Check.same("no data", m.disk.load(DATA, 1), 0);
        Check.same("no result", m.result(), 99);
        m = new Machine(1, 4);
        m.three(1, 0, 512, false);
        m.disk.store(DATA, 1, 6);
        m.block(2, RESULT, 1, OPEN | 4, 0);
        m.disk.store(m.answers, 8, -1);
        m.offerAndKick(0);
        m.expectBroken("writing with a refused end");
        Check.same("disk", m.disk.disk(0), 0);
        Check.same("answers", m.disk.load(m.answers, 8), -1);
        Check.same("result", m.result(), 99);
    }

    private static void brokenStaysBroken() {
        Machine m = ready(4);
        m.offerAndKick(9);
        m.expectBroken("broken");
        m.disk.store(m.offers + 4, 2, 0);
        m.kick();
        m.expectBroken("mended, but not reset");
        m.disk.write(112, 15);
        m.kick();
        m.expectBroken("state written anew");
        m.disk.write(112, 0);
        m.setUp();
        m.disk.write(112, 15);
        m.kick();
        m.expectAnswered("after a reset", 1);
        // The request by which it broke does not count as taken.
        m = ready(4);
        m.offer(0);
        m.offerAndKick(9);
        Check.same("answered before", m.disk.answered(), 1);
        Check.same("count before", m.answerCount(), 1);
        Check.same("causes before", m.disk.read(96), 3);
    }

    private static void sizeOne() {
        Machine m = new Machine(1, 1);
        m.two(4, 0);
        m.kick();
        m.expectAnswered("size 1, nothing offered", 0);
        m.offerAndKick(0);
        judge(m, "one block is never a request", false);
    }
}

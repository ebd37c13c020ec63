/** Promises 5, 9 and 10 where a request is done: kinds, results, lengths, counts of sectors. */
public final class RequestTest {
    private static final int NEXT = Machine.NEXT;
    private static final int OPEN = Machine.OPEN;
    private static final long DATA = Machine.DATA;
    private static final long HEADS = Machine.HEADS;
    private static final long RESULT = Machine.RESULT;

    public static void main(String[] args) {
        readsSectors();
        readsIntoPieces();
        writesSectors();
        writesFromPieces();
        sectorsOfTheDisk();
        wholeSectors();
        noData();
        mostSectors();
        sectorWithoutSign();
        flush();
        name();
        longNameInPieces();
        unknownKinds();
        otherBlocksAreLeft();
        longHead();
        shortBehindLong();
        Check.end();
    }

    private static void fillDisk(QueueDisk x, int from, int count) {
        for (int k = 0; k < count; k++) {
            x.setDisk(from + k, pattern(k));
        }
    }

    private static int pattern(int k) {
        return k * 7 + k / 256 + 1 & 255;
    }

    private static void readsSectors() {
        Machine m = new Machine(4, 8);
        fillDisk(m.disk, 512, 1024);
        m.disk.store(DATA - 1, 1, 55);
        m.disk.store(DATA + 1024, 1, 56);
        m.three(0, 1, 1024, true);
        m.offerAndKick(0);
        m.expectAnswered("read", 1);
        for (int k = 0; k < 1024; k++) {
            Check.same("read byte " + k, m.disk.load(DATA + k, 1), pattern(k));
        }
        Check.same("before", m.disk.load(DATA - 1, 1), 55);
        Check.same("behind", m.disk.load(DATA + 1024, 1), 56);
        Check.same("result", m.result(), 0);
        Check.same("answer's number", m.answerNumber(0), 0);
        Check.same("answer's length", m.answerLength(0), 1025);
        Check.same("count", m.answerCount(), 1);
        Check.same("reading changes no sector", m.disk.changed(), 0);
    }

    /** Data in open blocks of 1, 0, 500 and 11 + 1 bytes; the last byte is the result's. */
    private static void readsIntoPieces() {
        Machine m = new Machine(1, 8);
        fillDisk(m.disk, 0, 512);
        m.head(HEADS, 0, 0);
        m.block(5, HEADS, 16, NEXT, 3);
        m.block(3, DATA + 9000, 1, NEXT | OPEN, 1);
        m.block(1, -5L, 0, NEXT | OPEN, 7);
        m.block(7, DATA, 500, NEXT | OPEN, 0);
        m.block(0, DATA + 7000, 12, OPEN, 99);
        m.disk.store(DATA + 7011, 2, 0xAAAA);
        m.offerAndKick(5);
        m.expectAnswered("pieces", 1);
        Check.same("first piece", m.disk.load(DATA + 9000, 1), pattern(0));
        Check.same("second piece", m.disk.load(DATA, 1), pattern(1));
        Check.same("second piece's end", m.disk.load(DATA + 499, 1), pattern(500));
        Check.same("third piece", m.disk.load(DATA + 7000, 1), pattern(501));
        Check.same("third piece's end", m.disk.load(DATA + 7010, 1), pattern(511));
        Check.same("result and behind it", m.disk.load(DATA + 7011, 2), 0xAA00);
        Check.same("number", m.answerNumber(0), 5);
        Check.same("length", m.answerLength(0), 513);
    }

    private static void writesSectors() {
        Machine m = new Machine(5, 8);
        m.disk.setDisk(2048, 123);
        for (int k = 0; k < 1024; k++) {
            m.disk.store(DATA + k, 1, pattern(k));
        }
        m.three(1, 2, 1024, false);
        m.offerAndKick(0);
        m.expectAnswered("write", 1);
        for (int k = 0; k < 1024; k++) {
            Check.same("written byte " + k, m.disk.disk(1024 + k), pattern(k));
        }
        Check.same("before", m.disk.disk(1023), 0);
        Check.same("behind", m.disk.disk(2048), 123);
        Check.same("result", m.result(), 0);
        Check.same("length", m.answerLength(0), 1);
        Check.same("changed", m.disk.changed(), 2);
        m.offerAndKick(0);
        Check.same("changed in all", m.disk.changed(), 4);
        m.disk.write(112, 0);
        Check.same("changed after a reset", m.disk.changed(), 4);
        Check.same("answered after a reset", m.disk.answered(), 2);
    }

    private static void writesFromPieces() {
        Machine m = new Machine(2, 8);
        for (int k = 0; k < 512; k++) {
            m.disk.store(DATA + k, 1, pattern(k));
        }
        m.head(HEADS, 1, 1);
        m.block(2, HEADS, 16, NEXT, 6);
        m.block(6, DATA + 300, 212, NEXT, 4);
        m.block(4, 0L, 0, NEXT, 0);
        m.block(0, DATA, 300, NEXT, 1);
        // Open bytes before the result are no data of a writing, and stay as they are.
        m.disk.store(DATA + 2000, 8, 0x7777777777777777L);
        m.block(1, DATA + 2000, 8, OPEN, 0);
        m.offerAndKick(2);
        m.expectAnswered("pieces", 1);
        for (int k = 0; k < 512; k++) {
            Check.same("piece " + k, m.disk.disk(512 + k), pattern((k + 300) % 512));
        }
        Check.same("only the last byte is the result", m.disk.load(DATA + 2000, 8), 0x0077777777777777L);
        Check.same("length", m.answerLength(0), 1);
        Check.same("changed", m.disk.changed(), 1);
    }

    private static void oneTry(String what, int sectors, int kind, long sector, long length, int result) {
        Machine m = new Machine(sectors, 4);
        m.three(kind, sector, length, kind == 0);
        if (length > 0) {
            m.disk.store(DATA, 1, 200);
        }
        m.offerAndKick(0);
        String all = what + ", kind " + kind + ": ";
        m.expectAnswered(all, 1);
        Check.same(all + "result", m.result(), result);
        Check.same(all + "length", m.answerLength(0), result == 0 && kind == 0 ? length + 1 : 1);
        Check.same(all + "changed", m.disk.changed(), result == 0 && kind == 1 ? length / 512 : 0);
        if (length > 0) {
            Check.same(all + "data", m.disk.load(DATA, 1), kind == 0 && result == 0 ? 0 : 200);
        }
        if (kind == 1 && result == 1) {
            int sum = 0;
            for (int p = 0; p < sectors * 512; p++) {
                sum |= m.disk.disk(p);
            }
            Check.same(all + "disk is left", sum, 0);
        }
    }

    private static void sectorsOfTheDisk() {
        for (int kind = 0; kind < 2; kind++) {
            oneTry("the last sector", 3, kind, 2, 512, 0);
            oneTry("the one behind the disk", 3, kind, 3, 512, 1);
            oneTry("all sectors", 3, kind, 0, 1536, 0);
            oneTry("one over the end", 3, kind, 1, 1536, 1);
            oneTry("two of one", 1, kind, 0, 1024, 1);
            oneTry("the last of the largest", 2048, kind, 2047, 512, 0);
            oneTry("behind the largest", 2048, kind, 2048, 512, 1);
            oneTry("over the end of the largest", 2048, kind, 2047, 1024, 1);
        }
    }

    private static void wholeSectors() {
        for (int kind = 0; kind < 2; kind++) {
            oneTry("a byte", 3, kind, 0, 1, 1);
            oneTry("one byte less", 3, kind, 0, 511, 1);
            oneTry("one byte more", 3, kind, 0, 513, 1);
            oneTry("one and a half", 3, kind, 0, 768, 1);
        }
    }

    private static void noData() {
        for (int kind = 0; kind < 2; kind++) {
            oneTry("no data", 1, kind, 0, 0, 0);
            oneTry("no data off the disk", 1, kind, 1, 0, 0);
            oneTry("no data far off the disk", 1, kind, -1, 0, 0);
            Machine m = new Machine(1, 4);
            m.two(kind, 12345);
            m.offerAndKick(0);
            Check.same("no block of data", m.result(), 0);
            Check.same("length", m.answerLength(0), 1);
        }
    }

    private static void mostSectors() {
        for (int kind = 0; kind < 2; kind++) {
            oneTry("64 sectors", 64, kind, 0, 64 * 512, 0);
            oneTry("64 sectors at the end", 100, kind, 36, 64 * 512, 0);
            oneTry("64 sectors over the end", 100, kind, 37, 64 * 512, 1);
            oneTry("65 sectors", 100, kind, 0, 65 * 512, 1);
        }
    }

    private static void sectorWithoutSign() {
        long[] far = {-1L, Long.MIN_VALUE, Long.MAX_VALUE, 1L << 32, 1L << 55, -2L, 1L << 31, 1L << 63 | 1};
        for (long s : far) {
            oneTry("sector " + s, 3, 0, s, 512, 1);
            oneTry("sector " + s, 3, 1, s, 512, 1);
        }
    }

    private static void flush() {
        Machine m = new Machine(1, 4);
        m.two(4, -1);
        m.offerAndKick(0);
        m.expectAnswered("flush", 1);
        Check.same("result", m.result(), 0);
        Check.same("length", m.answerLength(0), 1);
        m = new Machine(1, 4);
        m.disk.setDisk(0, 9);
        m.disk.store(DATA, 1, 8);
        m.three(4, 0, 700, true);
        m.offerAndKick(0);
        Check.same("result with data", m.result(), 0);
        Check.same("length with data", m.answerLength(0), 1);
        Check.same("data are left", m.disk.load(DATA, 1), 8);
        m = new Machine(1, 4);
        m.three(4, 0, 700, false);
        m.disk.store(DATA, 1, 8);
        m.offerAndKick(0);
        Check.same("result with closed data", m.result(), 0);
        Check.same("nothing is written", m.disk.disk(0), 0);
    }

    private static void name() {
        int[] lengths = {0, 1, 4, 5, 6, 19, 20, 21, 600};
        int[] letters = {98, 108, 111, 99, 107};
        for (int n : lengths) {
            Machine m = new Machine(1, 4);
            for (int k = 0; k < 30; k++) {
                m.disk.store(DATA + k, 1, 170);
            }
            m.three(8, -1, n, true);
            m.offerAndKick(0);
            m.expectAnswered("name in " + n, 1);
            for (int k = 0; k < 30; k++) {
                int due = k >= Math.min(n, 20) ? 170 : k < 5 ? letters[k] : 0;
                Check.same("name in " + n + " at " + k, m.disk.load(DATA + k, 1), due);
            }
            Check.same("result", m.result(), 0);
            Check.same("length", m.answerLength(0), Math.min(n, 20) + 1);
        }
        // In pieces of 2, 1 and 4 bytes, the last of which is the result.
        Machine m = new Machine(1, 8);
        m.head(HEADS, 8, 0);
        m.block(0, HEADS, 16, NEXT, 1);
        m.block(1, DATA, 2, NEXT | OPEN, 2);
        m.block(2, DATA + 100, 1, NEXT | OPEN, 3);
        m.block(3, DATA + 200, 4, OPEN, 0);
        m.disk.store(DATA + 203, 2, 0x6363);
        m.offerAndKick(0);
        Check.same("piece 1", m.disk.load(DATA, 4), 108 * 256 + 98);
        Check.same("piece 2", m.disk.load(DATA + 100, 2), 111);
        Check.same("piece 3", m.disk.load(DATA + 200, 2), 107 * 256 + 99);
        Check.same("piece 3's zero, result, behind", m.disk.load(DATA + 202, 4), 0x00630000);
        Check.same("length", m.answerLength(0), 7);
    }

    /** Twenty bytes are the most also where they are put into several blocks. */
    private static void longNameInPieces() {
        Machine m = new Machine(1, 8);
        for (int k = 0; k < 40; k += 8) {
            m.disk.store(DATA + k, 8, -1);
        }
        m.head(HEADS, 8, 0);
        m.block(0, HEADS, 16, NEXT, 1);
        m.block(1, DATA, 15, NEXT | OPEN, 2);
        m.block(2, DATA + 16, 15, NEXT | OPEN, 3);
        m.block(3, DATA + 32, 8, OPEN, 0);
        m.offerAndKick(0);
        Check.same("first piece", m.disk.load(DATA + 8, 8), 0xFFL << 56);
        Check.same("second piece", m.disk.load(DATA + 16, 8), 0xFFFFFFL << 40);
        Check.same("second piece's rest", m.disk.load(DATA + 24, 8), -1);
        Check.same("third piece", m.disk.load(DATA + 32, 8), 0x00FFFFFFFFFFFFFFL);
        Check.same("length", m.answerLength(0), 21);
    }

    private static void unknownKinds() {
        int[] kinds = {2, 3, 5, 7, 9, 16, 256, 65536, 1 << 24, -1, Integer.MIN_VALUE, 1 << 31 | 1};
        for (int kind : kinds) {
            Machine m = new Machine(1, 4);
            m.disk.store(DATA, 1, 200);
            m.three(kind, 0, 512, true);
            m.offerAndKick(0);
            m.expectAnswered("kind " + kind, 1);
            Check.same("kind " + kind, m.result(), 2);
            Check.same("length", m.answerLength(0), 1);
            Check.same("data", m.disk.load(DATA, 1), 200);
            Check.same("changed", m.disk.changed(), 0);
        }
    }

    /** Closed data of a reading and open data of a writing are neither read nor written. */
    private static void otherBlocksAreLeft() {
        Machine m = new Machine(1, 8);
        fillDisk(m.disk, 0, 512);
        m.head(HEADS, 0, 0);
        m.block(0, HEADS, 16, NEXT, 1);
        m.block(1, DATA, 100, NEXT, 2);
        m.block(2, DATA + 1000, 512, NEXT | OPEN, 3);
        m.block(3, RESULT, 1, OPEN, 0);
        m.offerAndKick(0);
        Check.same("result of a reading", m.result(), 0);
        Check.same("closed data", m.disk.load(DATA, 8), 0);
        Check.same("open data", m.disk.load(DATA + 1000, 1), pattern(0));
        m = new Machine(1, 8);
        m.head(HEADS, 1, 0);
        m.disk.store(DATA, 1, 33);
        m.block(0, HEADS, 16, NEXT, 1);
        m.block(1, DATA, 512, NEXT, 2);
        m.block(2, DATA + 1000, 100, NEXT | OPEN, 3);
        m.block(3, RESULT, 1, OPEN, 0);
        m.offerAndKick(0);
        Check.same("result of a writing", m.result(), 0);
        Check.same("disk", m.disk.disk(0), 33);
        Check.same("length of a writing", m.answerLength(0), 1);
    }

    /** What stands behind the sixteen bytes of the first block is no data. */
    private static void longHead() {
        Machine m = new Machine(1, 4);
        m.head(HEADS, 1, 0);
        m.block(0, HEADS, 16 + 512, NEXT, 1);
        m.block(1, RESULT, 1, OPEN, 0);
        m.disk.store(HEADS + 16, 1, 5);
        m.offerAndKick(0);
        m.expectAnswered("long head", 1);
        Check.same("no data in it", m.disk.changed(), 0);
        Check.same("disk", m.disk.disk(0), 0);
    }

    /** What a longer request left in the device is no part of a shorter one behind it. */
    private static void shortBehindLong() {
        int[] kinds = {0, 1, 8};
        for (int kind : kinds) {
            Machine m = new Machine(3, 8);
            m.head(HEADS, 4, 0);
            for (int k = 0; k < 7; k++) {
                m.block(k, HEADS, 512, NEXT, k + 1);
            }
            m.block(7, DATA, 512, OPEN, 0);
            m.offerAndKick(0);
            for (int k = 0; k < 7; k++) {
                m.block(k, DATA, 500, NEXT | OPEN, k + 1);
            }
            m.block(0, HEADS, 512, NEXT, 1);
            m.offerAndKick(0);
            m.disk.store(DATA, 8, -1);
            m.disk.setDisk(0, 44);
            m.two(kind, 0);
            m.offerAndKick(0);
            m.expectAnswered("short one of kind " + kind, 3);
            Check.same("result", m.result(), 0);
            Check.same("length", m.answerLength(2), 1);
            Check.same("changed", m.disk.changed(), 0);
            Check.same("data", m.disk.load(DATA, 8), -1);
            Check.same("disk", m.disk.disk(0), 44);
        }
    }
}

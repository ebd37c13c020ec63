/** Promise 5 where a request is done: kinds, data, results, and how much was written. */
public final class RequestTest {
    private static final int NEXT = Machine.NEXT;
    private static final int OPEN = Machine.OPEN;
    private static final int READ = Machine.READ;
    private static final int WRITE = Machine.WRITE;
    private static final int FLUSH = Machine.FLUSH;
    private static final int NAME = Machine.NAME;
    private static final int[] LETTERS = {98, 108, 111, 99, 107};
    private static final long DATA = Machine.DATA;
    private static final long HEADS = Machine.HEADS;
    private static final long RESULT = Machine.RESULT;

    public static void main(String[] args) {
        readsSectors();
        readsIntoPieces();
        readsIntoTheLastBlock();
        writesSectors();
        writesFromPieces();
        fourOtherBytes();
        longHead();
        wholeSectors();
        wholeSectorsInPieces();
        noData();
        mostSectors();
        onTheDisk();
        sectorWithoutSign();
        dataOfTheOtherWay();
        flush();
        name();
        nameInPieces();
        twentyBytesInPieces();
        nameNeedsNoSector();
        unknownKinds();
        resultIsTheLastByte();
        shortBehindLong();
        readOfAWriting();
        Check.end();
    }

    /** Bytes of a disk that are set by hand: some in each sector, its first and last among them. */
    private static boolean marked(int k) {
        return k % 512 == 0 || k % 512 == 511 || k % 13 == 4;
    }

    private static int pattern(int k) {
        return marked(k) ? k * 7 + k / 256 + 1 & 255 : 0;
    }

    private static void fillDisk(Device x, int from, int count) {
        for (int k = 0; k < count; k++) {
            if (marked(k)) {
                x.setDisk(from + k, pattern(k));
            }
        }
    }

    private static long patterns(int k) {
        long n = 0;
        for (int j = 7; j >= 0; j--) {
            n = n << 8 | pattern(k + j);
        }
        return n;
    }

    /** "Kind 0 READ: data that the device writes become sectors from the one told on" */
    private static void readsSectors() {
        Machine m = new Machine(4, 8);
        fillDisk(m.disk, 512, 1024);
        m.disk.store(DATA - 1, 1, 55);
        m.disk.store(DATA + 1024, 1, 56);
        m.disk.store(DATA + 8, 8, -1);
        m.three(READ, 1, 1024, true);
        m.offerAndKick(0);
        m.expectAnswered("read", 1);
        for (int k = 0; k < 1024; k += 8) {
            Check.same("read bytes from " + k, m.disk.load(DATA + k, 8), patterns(k));
        }
        Check.same("before", m.disk.load(DATA - 1, 1), 55);
        Check.same("behind", m.disk.load(DATA + 1024, 1), 56);
        Check.same("result", m.result(), 0);
        Check.same("answer's number", m.answerNumber(0), 0);
        Check.same("answer's length", m.answerLength(0), 1025);
        Check.same("count", m.answerCount(), 1);
        Check.same("the disk is left", m.disk.disk(512), pattern(0));
    }

    /** Data in open blocks of 1, 0, 500 and 11 + 1 bytes; the last byte is the result's. */
    private static void readsIntoPieces() {
        Machine m = new Machine(1, 8);
        fillDisk(m.disk, 0, 512);
        m.disk.setDisk(1, 71);
        m.disk.setDisk(500, 72);
        m.disk.setDisk(501, 73);
        m.head(HEADS, READ, 0);
        m.block(5, HEADS, 16, NEXT, 3);
        m.block(3, DATA + 9000, 1, NEXT | OPEN, 1);
        m.block(1, -5L, 0, NEXT | OPEN, 7);
        m.block(7, DATA, 500, NEXT | OPEN, 0);
        m.block(0, DATA + 7000, 12, OPEN, 99);
        m.disk.store(DATA + 7011, 2, 0xAAAA);
        m.offerAndKick(5);
        m.expectAnswered("pieces", 1);
        Check.same("first piece", m.disk.load(DATA + 9000, 1), pattern(0));
        Check.same("second piece", m.disk.load(DATA, 1), 71);
        Check.same("second piece's midst", m.disk.load(DATA + 16, 8), patterns(17));
        Check.same("second piece's end", m.disk.load(DATA + 499, 1), 72);
        Check.same("third piece", m.disk.load(DATA + 7000, 1), 73);
        Check.same("third piece's end", m.disk.load(DATA + 7010, 1), pattern(511));
        Check.same("result and behind it", m.disk.load(DATA + 7011, 2), 0xAA00);
        Check.same("number", m.answerNumber(0), 5);
        Check.same("length", m.answerLength(0), 513);
    }

    /** "all those of its open ones but the last byte of the last one": the only open block has 512 + 1 bytes. */
    private static void readsIntoTheLastBlock() {
        for (int length = 512; length <= 514; length++) {
            Machine m = new Machine(1, 2);
            m.disk.setDisk(0, 31);
            m.disk.setDisk(511, 32);
            m.head(HEADS, READ, 0);
            m.block(0, HEADS, 16, NEXT, 1);
            m.block(1, DATA, length, OPEN, 0);
            m.disk.store(DATA + length - 1, 2, 0xBBBB);
            m.offerAndKick(0);
            boolean whole = length == 513;
            m.expectAnswered("last block of " + length, 1);
            Check.same("first byte of " + length, m.disk.load(DATA, 1), whole ? 31 : 0);
            Check.same("result of " + length, m.disk.load(DATA + length - 1, 2), whole ? 0xBB00 : 0xBB01);
            Check.same("length of " + length, m.answerLength(0), whole ? 513 : 1);
            Check.same("byte before the result of " + length, m.disk.load(DATA + length - 2, 1), whole ? 32 : 0);
        }
    }

    /** "1 WRITE: sectors from the one told on become the data that it reads" */
    private static void writesSectors() {
        Machine m = new Machine(5, 8);
        m.disk.setDisk(1023, 122);
        m.disk.setDisk(2048, 123);
        for (int k = 0; k < 1024; k += 8) {
            m.disk.store(DATA + k, 8, patterns(k));
        }
        m.disk.store(DATA + 1024, 1, 124);
        m.three(WRITE, 2, 1024, false);
        m.offerAndKick(0);
        m.expectAnswered("write", 1);
        for (int k = 0; k < 1024; k++) {
            if (marked(k) || k % 16 == 9) {
                Check.same("written byte " + k, m.disk.disk(1024 + k), pattern(k));
            }
        }
        Check.same("before", m.disk.disk(1023), 122);
        Check.same("behind", m.disk.disk(2048), 123);
        Check.same("result", m.result(), 0);
        Check.same("length", m.answerLength(0), 1);
        Check.same("changed", m.disk.changed(), 2);
        Check.same("memory is left", m.disk.load(DATA + 512, 8), patterns(512));
    }

    private static void writesFromPieces() {
        Machine m = new Machine(2, 8);
        for (int k = 0; k < 512; k += 8) {
            m.disk.store(DATA + k, 8, 0x0101010101010101L * (k / 8));
        }
        m.head(HEADS, WRITE, 1);
        m.block(2, HEADS, 16, NEXT, 6);
        m.block(6, DATA + 300, 212, NEXT, 4);
        m.block(4, 0L, 0, NEXT, 0);
        m.block(0, DATA, 300, NEXT, 1);
        // Open bytes before the result are no data of a writing, and stay as they are.
        m.disk.store(DATA + 2000, 8, 0x7777777777777777L);
        m.block(1, DATA + 2000, 8, OPEN, 0);
        m.offerAndKick(2);
        m.expectAnswered("pieces", 1);
        for (int k = 0; k < 512; k += k == 210 || k == 211 ? 1 : 3) {
            Check.same("piece " + k, m.disk.disk(512 + k), (k + 300) % 512 / 8);
        }
        Check.same("only the last byte is the result", m.disk.load(DATA + 2000, 8), 0x0077777777777777L);
        Check.same("length", m.answerLength(0), 1);
        Check.same("changed", m.disk.changed(), 1);
    }

    /** "the first block begins with its KIND (4 bytes), 4 others, and the SECTOR (8)" */
    private static void fourOtherBytes() {
        for (int kind = READ; kind <= WRITE; kind++) {
            Machine m = new Machine(9, 4);
            m.disk.setDisk(8 * 512, 45);
            m.three(kind, 8, 512, kind == READ);
            m.disk.store(HEADS + 4, 4, -1);
            m.disk.store(DATA, 1, 46);
            m.offerAndKick(0);
            m.expectAnswered("four other bytes", 1);
            Check.same("result", m.result(), 0);
            Check.same("memory", m.disk.load(DATA, 1), kind == READ ? 45 : 46);
            Check.same("disk", m.disk.disk(8 * 512), kind == READ ? 45 : 46);
        }
    }

    /** "DATA are the bytes of its closed blocks behind the first one": not what a long first one has. */
    private static void longHead() {
        Machine m = new Machine(1, 4);
        m.head(HEADS, WRITE, 0);
        m.block(0, HEADS, 16 + 512, NEXT, 1);
        m.block(1, RESULT, 1, OPEN, 0);
        m.disk.store(HEADS + 16, 1, 5);
        m.offerAndKick(0);
        m.expectAnswered("long head", 1);
        Check.same("no data in it", m.disk.changed(), 0);
        Check.same("disk", m.disk.disk(0), 0);
        m = new Machine(1, 4);
        m.three(WRITE, 0, 512, false);
        m.block(0, HEADS, 700, NEXT, 1);
        m.disk.store(DATA, 1, 6);
        m.offerAndKick(0);
        Check.same("data behind it: result", m.result(), 0);
        Check.same("data behind it: disk", m.disk.disk(0), 6);
    }

    /** One request of one block of data, whose result is told, and all that follows from the result. */
    private static void oneTry(String what, int sectors, int kind, long sector, int length, int result) {
        String all = what + ", kind " + kind + ": ";
        Machine m = new Machine(sectors, 4);
        // The last hundred are enough of a large disk.
        int from = Math.max(0, sectors - 100);
        for (int s = from; s < sectors; s++) {
            m.disk.setDisk(512 * s, 50);
        }
        for (int k = 0; k < length; k += 512) {
            m.disk.store(DATA + k, 1, 200);
        }
        m.three(kind, sector, length, kind == READ);
        m.offerAndKick(0);
        m.expectAnswered(all, 1);
        Check.same(all + "result", m.result(), result);
        boolean done = result == 0;
        Check.same(all + "length", m.answerLength(0), done && kind == READ ? length + 1 : 1);
        Check.same(all + "changed", m.disk.changed(), done && kind == WRITE ? length / 512 : 0);
        for (int k = 0; k < length; k += 512) {
            Check.same(all + "data at " + k, m.disk.load(DATA + k, 1), done && kind == READ ? 50 : 200);
        }
        for (int s = from; s < sectors; s++) {
            boolean over = done && kind == WRITE && s >= sector && s < sector + length / 512;
            Check.same(all + "sector " + s, m.disk.disk(512 * s), over ? 200 : 50);
        }
    }

    /** "It is wrong, and nothing is done, when there are not whole sectors of data" */
    private static void wholeSectors() {
        int[] lengths = {1, 2, 256, 510, 511, 513, 514, 768, 1023, 1025, 1535};
        for (int kind = READ; kind <= WRITE; kind++) {
            for (int length : lengths) {
                oneTry(length + " bytes", 4, kind, 0, length, 1);
            }
            oneTry("one sector", 4, kind, 0, 512, 0);
            oneTry("two sectors", 4, kind, 1, 1024, 0);
            oneTry("three sectors", 4, kind, 1, 1536, 0);
        }
    }

    /** Whole sectors are of all data together, not of each block. */
    private static void wholeSectorsInPieces() {
        for (int kind = READ; kind <= WRITE; kind++) {
            int marks = kind == READ ? NEXT | OPEN : NEXT;
            for (int more = -1; more <= 1; more++) {
                Machine m = new Machine(2, 8);
                m.head(HEADS, kind, 0);
                m.block(0, HEADS, 16, NEXT, 1);
                m.block(1, DATA, 200, marks, 2);
                m.block(2, DATA + 200, 400 + more, marks, 3);
                m.block(3, DATA + 600, 424, marks, 4);
                m.block(4, RESULT, 1, OPEN, 0);
                m.disk.store(RESULT, 1, 99);
                m.offerAndKick(0);
                Check.same("1024 bytes and " + more + ", kind " + kind, m.result(), more == 0 ? 0 : 1);
                Check.same("changed", m.disk.changed(), more == 0 && kind == WRITE ? 2 : 0);
                Check.same("length", m.answerLength(0), more == 0 && kind == READ ? 1025 : 1);
            }
        }
    }

    /** "(none are)": no data are whole sectors, and none of those is off the disk. */
    private static void noData() {
        long[] sectors = {0, 1, 2, 2048, Long.MAX_VALUE, -1, Long.MIN_VALUE};
        for (int kind = READ; kind <= WRITE; kind++) {
            for (long sector : sectors) {
                oneTry("no data at " + sector, 1, kind, sector, 0, 0);
                Machine m = new Machine(1, 4);
                m.two(kind, sector);
                m.offerAndKick(0);
                m.expectAnswered("no block of data", 1);
                Check.same("no block of data: result", m.result(), 0);
                Check.same("no block of data: length", m.answerLength(0), 1);
                Check.same("no block of data: changed", m.disk.changed(), 0);
            }
        }
    }

    /** "or more than 64" */
    private static void mostSectors() {
        for (int kind = READ; kind <= WRITE; kind++) {
            oneTry("63 sectors", 100, kind, 0, 63 * 512, 0);
            oneTry("64 sectors", 64, kind, 0, 64 * 512, 0);
            oneTry("64 sectors at the end", 100, kind, 36, 64 * 512, 0);
            oneTry("64 sectors over the end", 100, kind, 37, 64 * 512, 1);
            oneTry("64 sectors and a byte", 100, kind, 0, 64 * 512 + 1, 1);
            oneTry("65 sectors", 100, kind, 0, 65 * 512, 1);
            oneTry("66 sectors", 100, kind, 0, 66 * 512, 1);
            mostSectorsInPieces(kind, 64);
            mostSectorsInPieces(kind, 65);
        }
    }

    /** The same bytes of memory may be data several times. */
    private static void mostSectorsInPieces(int kind, int sectors) {
        int marks = kind == READ ? NEXT | OPEN : NEXT;
        Machine m = new Machine(128, 8);
        m.head(HEADS, kind, 3);
        m.block(0, HEADS, 16, NEXT, 1);
        m.block(1, DATA, 20 * 512, marks, 2);
        m.block(2, DATA, 20 * 512 + 100, marks, 3);
        m.block(3, DATA, (sectors - 40) * 512 - 100, marks, 4);
        m.block(4, RESULT, 1, OPEN, 0);
        m.offerAndKick(0);
        m.expectAnswered(sectors + " sectors in pieces", 1);
        Check.same("result", m.result(), sectors > 64 ? 1 : 0);
        Check.same("changed", m.disk.changed(), sectors <= 64 && kind == WRITE ? sectors : 0);
        Check.same("length", m.answerLength(0), sectors <= 64 && kind == READ ? sectors * 512 + 1 : 1);
    }

    /** "or one of them is not on the disk" */
    private static void onTheDisk() {
        for (int kind = READ; kind <= WRITE; kind++) {
            oneTry("the first sector", 3, kind, 0, 512, 0);
            oneTry("the last sector", 3, kind, 2, 512, 0);
            oneTry("the one behind the disk", 3, kind, 3, 512, 1);
            oneTry("the next one", 3, kind, 4, 512, 1);
            oneTry("all sectors", 3, kind, 0, 1536, 0);
            oneTry("the last two", 3, kind, 1, 1024, 0);
            oneTry("one over the end", 3, kind, 1, 1536, 1);
            oneTry("two over the end", 3, kind, 2, 1536, 1);
            oneTry("more than all", 3, kind, 0, 2048, 1);
            oneTry("one of one", 1, kind, 0, 512, 0);
            oneTry("two of one", 1, kind, 0, 1024, 1);
            oneTry("the last of the largest", 2048, kind, 2047, 512, 0);
            oneTry("behind the largest", 2048, kind, 2048, 512, 1);
            oneTry("over the end of the largest", 2048, kind, 2047, 1024, 1);
            oneTry("64 at the end of the largest", 2048, kind, 1984, 64 * 512, 0);
            oneTry("64 over the end of the largest", 2048, kind, 1985, 64 * 512, 1);
        }
    }

    /** "Numbers are without sign": the sector is one of 8 bytes, whose places on a disk must not go round. */
    private static void sectorWithoutSign() {
        long[] far = {-1L, -2L, -3L, -512L, Long.MIN_VALUE, Long.MIN_VALUE + 1, Long.MAX_VALUE, 1L << 31, 1L << 32,
            1L << 32 | 1, 1L << 48, 1L << 54, 1L << 55, 1L << 55 | 1, 1L << 56, 1L << 62, 256, 65536, 0xFFFFFFFFL};
        for (long s : far) {
            oneTry("sector " + s, 3, READ, s, 512, 1);
            oneTry("sector " + s, 3, WRITE, s, 512, 1);
            oneTry("two from sector " + s, 3, WRITE, s, 1024, 1);
        }
    }

    /** Closed data of a reading and open data of a writing do not count, and are left. */
    private static void dataOfTheOtherWay() {
        int[] lengths = {1, 100, 512, 65 * 512};
        for (int length : lengths) {
            Machine m = otherWay(READ, length);
            m.disk.setDisk(0, 21);
            m.offerAndKick(0);
            m.expectAnswered("reading with closed data", 1);
            Check.same("result of a reading", m.result(), 0);
            Check.same("closed data of a reading", m.disk.load(DATA, 1), 77);
            Check.same("open data of a reading", m.disk.load(DATA + 0x9000, 1), 21);
            Check.same("length of a reading", m.answerLength(0), 513);
            m = otherWay(WRITE, length);
            m.offerAndKick(0);
            m.expectAnswered("writing with open data", 1);
            Check.same("result of a writing", m.result(), 0);
            Check.same("open data of a writing", m.disk.load(DATA, 1), 77);
            Check.same("disk of a writing", m.disk.disk(0), 78);
            Check.same("length of a writing", m.answerLength(0), 1);
            Check.same("changed by a writing", m.disk.changed(), 1);
        }
    }

    private static Machine otherWay(int kind, int length) {
        Machine m = new Machine(1, 4);
        boolean reading = kind == READ;
        m.head(HEADS, kind, 0);
        m.block(0, HEADS, 16, NEXT, reading ? 1 : 2);
        m.block(1, DATA, length, reading ? NEXT : NEXT | OPEN, reading ? 2 : 3);
        m.block(2, DATA + 0x9000, 512, reading ? NEXT | OPEN : NEXT, reading ? 3 : 1);
        m.block(3, RESULT, 1, OPEN, 0);
        m.disk.store(RESULT, 1, 99);
        m.disk.store(DATA, 1, 77);
        m.disk.store(DATA + 0x9000, 1, 78);
        return m;
    }

    /** "4 FLUSH: done." */
    private static void flush() {
        int[] lengths = {0, 1, 512, 700, 66 * 512};
        for (int length : lengths) {
            for (int open = 0; open < 2; open++) {
                Machine m = new Machine(1, 4);
                m.disk.setDisk(0, 9);
                m.three(FLUSH, -1, length, open == 1);
                m.disk.store(DATA, 1, 8);
                m.offerAndKick(0);
                m.expectAnswered("flush", 1);
                Check.same("flush: result", m.result(), 0);
                Check.same("flush: length", m.answerLength(0), 1);
                Check.same("flush: data", m.disk.load(DATA, 1), 8);
                Check.same("flush: disk", m.disk.disk(0), 9);
                Check.same("flush: changed", m.disk.changed(), 0);
            }
        }
    }

    /** "8 NAME: the first 20 bytes of the data .. become 98, 108, 111, 99, 107, and then 0 (fewer, if ..): done." */
    private static void name() {
        for (int n = 0; n <= 24; n++) {
            nameIn(n);
        }
        nameIn(512);
        nameIn(600);
        nameIn(66 * 512);
    }

    private static void nameIn(int n) {
        Machine m = new Machine(1, 4);
        for (int k = 0; k < 32; k += 8) {
            m.disk.store(DATA + k, 8, 0xAAAAAAAAAAAAAAAAL);
        }
        m.three(NAME, -1, n, true);
        m.offerAndKick(0);
        m.expectAnswered("name in " + n, 1);
        for (int k = 0; k < 32; k++) {
            int due = k >= Math.min(n, 20) ? 170 : k < 5 ? LETTERS[k] : 0;
            Check.same("name in " + n + " at " + k, m.disk.load(DATA + k, 1), due);
        }
        Check.same("name in " + n + ": result", m.result(), 0);
        Check.same("name in " + n + ": length", m.answerLength(0), Math.min(n, 20) + 1);
    }

    /** In pieces of 2, 0, 1 and 4 bytes, the last of which is the result. */
    private static void nameInPieces() {
        Machine m = new Machine(1, 8);
        m.head(HEADS, NAME, 0);
        m.block(0, HEADS, 16, NEXT, 1);
        m.block(1, DATA, 2, NEXT | OPEN, 4);
        m.block(4, DATA + 50, 0, NEXT | OPEN, 2);
        m.block(2, DATA + 100, 1, NEXT | OPEN, 3);
        m.block(3, DATA + 200, 4, OPEN, 0);
        m.disk.store(DATA + 200, 8, 0x6363636363636363L);
        m.offerAndKick(0);
        m.expectAnswered("name in pieces", 1);
        Check.same("piece 1", m.disk.load(DATA, 4), 108 * 256 + 98);
        Check.same("the empty one", m.disk.load(DATA + 50, 1), 0);
        Check.same("piece 2", m.disk.load(DATA + 100, 2), 111);
        Check.same("piece 3, the result, and behind", m.disk.load(DATA + 200, 8), 0x63636363_00_00_6B63L);
        Check.same("length", m.answerLength(0), 7);
    }

    /** Twenty bytes are the most also where they are put into several blocks. */
    private static void twentyBytesInPieces() {
        Machine m = new Machine(1, 8);
        for (int k = 0; k < 40; k += 8) {
            m.disk.store(DATA + k, 8, -1);
        }
        m.head(HEADS, NAME, 0);
        m.block(0, HEADS, 16, NEXT, 1);
        m.block(1, DATA, 15, NEXT | OPEN, 2);
        m.block(2, DATA + 16, 15, NEXT | OPEN, 3);
        m.block(3, DATA + 32, 8, OPEN, 0);
        m.offerAndKick(0);
        Check.same("first piece", m.disk.load(DATA + 8, 8), 0xFFL << 56);
        Check.same("second piece", m.disk.load(DATA + 16, 8), 0xFFFFFFL << 40);
        Check.same("second piece's rest", m.disk.load(DATA + 24, 8), -1);
        Check.same("third piece", m.disk.load(DATA + 32, 8), 0x00FFFFFFFFFFFFFFL);
        Check.same("length", m.answerLength(0), 21);
    }

    /** Closed data, the sector and whole sectors have no say in a name. */
    private static void nameNeedsNoSector() {
        Machine m = new Machine(1, 4);
        m.head(HEADS, NAME, Long.MIN_VALUE);
        m.block(0, HEADS, 16, NEXT, 1);
        m.block(1, DATA, 30, NEXT, 2);
        m.block(2, DATA + 64, 6, OPEN, 0);
        m.offerAndKick(0);
        m.expectAnswered("name with closed data", 1);
        Check.same("closed data are left", m.disk.load(DATA, 8), 0);
        Check.same("open data", m.disk.load(DATA + 64, 8), 0x6B636F6C62L);
        Check.same("length", m.answerLength(0), 6);
    }

    /** "Other kinds are not known.": "2 not known", and the kind is a number of 4 bytes. */
    private static void unknownKinds() {
        int[] kinds = {2, 3, 5, 6, 7, 9, 10, 12, 16, 255, 256, 257, 260, 264, 65536, 65537, 65540, 1 << 24, 1 << 24 | 1,
            1 << 24 | 4, 1 << 24 | 8, -1, -4, -8, Integer.MIN_VALUE, Integer.MIN_VALUE + 1, Integer.MAX_VALUE};
        for (int kind : kinds) {
            for (int open = 0; open < 2; open++) {
                Machine m = new Machine(1, 4);
                m.disk.setDisk(0, 5);
                m.three(kind, 0, 512, open == 1);
                m.disk.store(DATA, 1, 200);
                m.offerAndKick(0);
                m.expectAnswered("kind " + kind, 1);
                Check.same("kind " + kind + ": result", m.result(), 2);
                Check.same("kind " + kind + ": length", m.answerLength(0), 1);
                Check.same("kind " + kind + ": data", m.disk.load(DATA, 1), 200);
                Check.same("kind " + kind + ": disk", m.disk.disk(0), 5);
                Check.same("kind " + kind + ": changed", m.disk.changed(), 0);
            }
        }
    }

    /** "the last byte of the last one; that byte gets the RESULT: 0 done, 1 wrong, 2 not known" */
    private static void resultIsTheLastByte() {
        int[][] kindsAndResults = {{READ, 1}, {WRITE, 0}, {FLUSH, 0}, {3, 2}};
        for (int[] pair : kindsAndResults) {
            for (int length = 1; length <= 6; length++) {
                Machine m = new Machine(1, 2);
                m.head(HEADS, pair[0], 0);
                m.block(0, HEADS, 16, NEXT, 1);
                m.block(1, DATA + 1, length, OPEN, 0);
                m.disk.store(DATA, 8, -1L);
                m.offerAndKick(0);
                m.expectAnswered("result", 1);
                int result = pair[0] == READ && length == 1 ? 0 : pair[1];
                long due = -1L & ~(255L << 8 * length) | (long) result << 8 * length;
                Check.same("kind " + pair[0] + " in a last block of " + length, m.disk.load(DATA, 8), due);
                Check.same("length", m.answerLength(0), 1);
            }
        }
    }

    /** What a longer request left in the device is no part of a shorter one behind it. */
    private static void shortBehindLong() {
        int[] kinds = {READ, WRITE, NAME};
        for (int kind : kinds) {
            Machine m = new Machine(3, 8);
            m.head(HEADS, FLUSH, 0);
            for (int k = 0; k < 7; k++) {
                m.block(k, HEADS, 512, NEXT, k + 1);
            }
            m.block(7, DATA, 512, OPEN, 0);
            m.offerAndKick(0);
            for (int k = 0; k < 7; k++) {
                m.block(k, DATA, 500, NEXT | OPEN, k + 1);
            }
            m.block(0, HEADS, 512, NEXT, 1);
            m.offerAndKick(0);
            m.disk.store(DATA, 8, -1);
            m.disk.setDisk(0, 44);
            m.two(kind, 0);
            m.offerAndKick(0);
            m.expectAnswered("short one of kind " + kind, 3);
            Check.same("result", m.result(), 0);
            Check.same("length", m.answerLength(2), 1);
            Check.same("changed", m.disk.changed(), 0);
            Check.same("data", m.disk.load(DATA, 8), -1);
            Check.same("disk", m.disk.disk(0), 44);
        }
    }

    /** Sectors that one request of a working writes are what the next one reads. */
    private static void readOfAWriting() {
        Machine m = new Machine(4, 8);
        m.three(WRITE, 3, 512, false);
        m.head(HEADS + 64, READ, 3);
        m.block(4, HEADS + 64, 16, NEXT, 5);
        m.block(5, DATA + 1000, 513, OPEN, 0);
        m.disk.store(DATA, 8, 0x1122334455667788L);
        m.disk.store(DATA + 504, 8, 0x99AABBCCDDEEFF00L);
        m.offer(0);
        m.offerAndKick(4);
        m.expectAnswered("writing, then reading", 2);
        Check.same("first bytes", m.disk.load(DATA + 1000, 8), 0x1122334455667788L);
        Check.same("last bytes", m.disk.load(DATA + 1504, 8), 0x99AABBCCDDEEFF00L);
        Check.same("length of the writing", m.answerLength(0), 1);
        Check.same("length of the reading", m.answerLength(1), 513);
        Check.same("number of the reading", m.answerNumber(1), 4);
    }
}

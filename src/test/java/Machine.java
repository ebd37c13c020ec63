/** A device with its queue set up, and the hand moves of a driver. */
final class Machine {
    static final long START = 1L << 31;
    static final long END = START + 65536;
    static final long BLOCKS = START + 0x1000;
    static final long OFFERS = START + 0x2000;
    static final long ANSWERS = START + 0x3000;
    static final long HEADS = START + 0x4000;
    static final long RESULT = START + 0x4800;
    static final long DATA = START + 0x5000;
    static final int NEXT = 1;
    static final int OPEN = 2;
    static final int READ = 0;
    static final int WRITE = 1;
    static final int FLUSH = 4;
    static final int NAME = 8;

    final Device disk;
    final int size;
    final long blocks;
    final long offers;
    final long answers;
    private int offered = 0;

    Machine(int sectors, int size) {
        this(sectors, size, BLOCKS, OFFERS, ANSWERS);
    }

    Machine(int sectors, int size, long blocks, long offers, long answers) {
        disk = new Device(sectors);
        this.size = size;
        this.blocks = blocks;
        this.offers = offers;
        this.answers = answers;
        setUp();
    }

    /** All that has to be written to a new or reset device before it works. */
    void setUp() {
        disk.write(56, size);
        setPlaces();
        disk.write(68, 1);
        disk.write(112, 15);
    }

    void setPlaces() {
        setAddress(128, blocks);
        setAddress(144, offers);
        setAddress(160, answers);
    }

    void setAddress(int offset, long address) {
        disk.write(offset, (int) address);
        disk.write(offset + 4, (int) (address >>> 32));
    }

    void block(int k, long address, long length, int marks, int next) {
        blockAt(blocks + 16L * k, address, length, marks, next);
    }

    void blockAt(long place, long address, long length, int marks, int next) {
        disk.store(place, 8, address);
        disk.store(place + 8, 8, length & 0xFFFFFFFFL | (marks & 0xFFFFL) << 32 | (long) next << 48);
    }

    void head(long address, int kind, long sector) {
        disk.store(address, 4, kind);
        disk.store(address + 8, 8, sector);
    }

    /** Block 0 the head, block 1 the place of data, block 2 the result. */
    void three(int kind, long sector, long length, boolean open) {
        head(HEADS, kind, sector);
        block(0, HEADS, 16, NEXT, 1);
        block(1, DATA, length, open ? NEXT | OPEN : NEXT, 2);
        block(2, RESULT, 1, OPEN, 0);
        disk.store(RESULT, 1, 99);
    }

    /** Block 0 the head, block 1 the result: a request without data. */
    void two(int kind, long sector) {
        head(HEADS, kind, sector);
        block(0, HEADS, 16, NEXT, 1);
        block(1, RESULT, 1, OPEN, 0);
        disk.store(RESULT, 1, 99);
    }

    void offer(int number) {
        disk.store(offers + 4 + 2L * (offered % size), 2, number);
        offered++;
        disk.store(offers + 2, 2, offered);
    }

    void kick() {
        disk.write(80, 0);
    }

    void offerAndKick(int number) {
        offer(number);
        kick();
    }

    long result() {
        return disk.load(RESULT, 1);
    }

    long answerNumber(int slot) {
        return disk.load(answers + 4 + 8L * slot, 4);
    }

    long answerLength(int slot) {
        return disk.load(answers + 8 + 8L * slot, 4);
    }

    long answerCount() {
        return disk.load(answers + 2, 2);
    }

    /** Checks that the device broke at the first request. */
    void expectBroken(String what) {
        Check.same(what + ": state", disk.read(112), 79);
        Check.same(what + ": causes", disk.read(96), 2);
        Check.same(what + ": line", disk.line(), true);
        Check.same(what + ": answered", disk.answered(), 0);
        Check.same(what + ": changed", disk.changed(), 0);
    }

    void expectAnswered(String what, int times) {
        Check.same(what + ": state", disk.read(112), 15);
        Check.same(what + ": causes", disk.read(96), times == 0 ? 0 : 1);
        Check.same(what + ": answered", disk.answered(), times);
    }
}

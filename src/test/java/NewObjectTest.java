/** Promise 1, and all that the document says of how things are at first. */
public final class NewObjectTest {
    public static void main(String[] args) {
        soManySectors();
        memoryAtFirst();
        diskAtFirst();
        registersAtFirst();
        sizeAtFirst();
        placesAtFirst();
        countsAtFirst();
        oneObjectIsNotAnother();
        Check.end();
    }

    /** "So many sectors; 2048 if sectors is not 1 .. 2048." */
    private static void soManySectors() {
        int[][] saidAndDue = {
            {1, 1}, {2, 2}, {3, 3}, {777, 777}, {2047, 2047}, {2048, 2048},
            {0, 2048}, {-1, 2048}, {2049, 2048}, {2050, 2048}, {4096, 2048}, {65537, 2048},
            {Integer.MAX_VALUE, 2048}, {Integer.MIN_VALUE, 2048}, {Integer.MIN_VALUE + 1, 2048}};
        for (int[] pair : saidAndDue) {
            int end = 512 * pair[1];
            Device x = new Device(pair[0]);
            Check.same("sectors of " + pair[0], x.read(256), pair[1]);
            Check.same("last byte of " + pair[0], x.disk(end - 1), 0);
            x.setDisk(end - 1, 7);
            Check.same("last byte of " + pair[0] + " is kept", x.disk(end - 1), 7);
            Check.refused("byte behind the disk of " + pair[0], Check.BOUNDS, () -> x.disk(end));
            Check.refused("setting a byte behind it", Check.BOUNDS, () -> x.setDisk(end, 1));
        }
    }

    /** "MEMORY has 65,536 bytes, at the addresses 2^31 on, at first 0." */
    private static void memoryAtFirst() {
        Device x = new Device(1);
        for (long a = Machine.START; a < Machine.END; a += 8) {
            if (x.callsLeft() == 0) {
                x = new Device(1);
            }
            Check.same("memory at " + a, x.load(a, 8), 0);
        }
    }

    /** "THE DISK has as many SECTORS of 512 bytes as said, at first 0." */
    private static void diskAtFirst() {
        Device one = new Device(1);
        for (int p = 0; p < 512; p++) {
            Check.same("disk at " + p, one.disk(p), 0);
        }
        Device most = new Device(2048);
        for (int p = 2047; p < 512 * 2048; p += 2053) {
            Check.same("disk at " + p, most.disk(p), 0);
        }
    }

    /** "At first all are 0", and those that are told to read something else. */
    private static void registersAtFirst() {
        Device x = new Device(5);
        for (int o = 0; o <= 508; o += 4) {
            Check.same("register " + o, x.read(o), RegistersTest.atFirst(o, 5));
        }
        Check.same("line at first", x.line(), false);
        Check.same("answered at first", x.answered(), 0);
        Check.same("changed at first", x.changed(), 0);
    }

    /** "At first all are 0, but the size is 16": block 15 is one of the queue, and 16 is none. */
    private static void sizeAtFirst() {
        for (int first = 15; first <= 16; first++) {
            Device x = new Device(1);
            x.write(128, (int) Machine.BLOCKS);
            x.write(144, (int) Machine.OFFERS);
            x.write(160, (int) Machine.ANSWERS);
            x.write(68, 1);
            x.write(112, 15);
            x.store(Machine.HEADS, 4, 4);
            x.store(Machine.BLOCKS + 16 * first, 8, Machine.HEADS);
            x.store(Machine.BLOCKS + 16 * first + 8, 8, 16 | 1L << 32 | 3L << 48);
            x.store(Machine.BLOCKS + 48, 8, Machine.RESULT);
            x.store(Machine.BLOCKS + 56, 8, 1 | 2L << 32);
            x.store(Machine.OFFERS + 4, 2, first);
            x.store(Machine.OFFERS + 2, 2, 1);
            x.write(80, 0);
            Check.same("block " + first + ": answered", x.answered(), first == 15 ? 1 : 0);
            Check.same("block " + first + ": state", x.read(112), first == 15 ? 15 : 79);
        }
    }

    /** "At first all are 0": also where the blocks, the offers and the answers are. */
    private static void placesAtFirst() {
        int[] lowers = {128, 144, 160};
        long[] places = {Machine.BLOCKS, Machine.OFFERS, Machine.ANSWERS};
        for (int left = 0; left <= 3; left++) {
            Machine m = new Machine(1, 16);
            m.disk.write(112, 0);
            for (int k = 0; k < 3; k++) {
                if (k != left) {
                    m.disk.write(lowers[k], (int) places[k]);
                }
            }
            m.disk.write(68, 1);
            m.disk.write(112, 15);
            m.two(4, 0);
            m.offerAndKick(0);
            if (left == 3) {
                m.expectAnswered("no place left at 0, upper halves at 0", 1);
            } else {
                m.expectBroken("place " + lowers[left] + " left at 0");
            }
        }
    }

    /** "the one up to which the device has come (0 at first)", "ITS COUNT of answers (0 at first)" */
    private static void countsAtFirst() {
        Machine m = new Machine(1, 4);
        m.two(4, 0);
        m.disk.store(m.answers + 2, 2, 3);
        m.kick();
        m.expectAnswered("a count of 0 is not ahead", 0);
        Check.same("the driver's count of answers is left", m.answerCount(), 3);
        m.offerAndKick(0);
        m.expectAnswered("a count of 1 is ahead by one", 1);
        Check.same("the device's own count of answers", m.answerCount(), 1);
        Check.same("the answer is at place 0", m.answerLength(0), 1);
    }

    private static void oneObjectIsNotAnother() {
        Machine m = new Machine(3, 4);
        m.two(4, 0);
        m.disk.setDisk(5, 5);
        m.offerAndKick(0);
        Device other = new Device(3);
        Check.same("memory of another", other.load(Machine.HEADS, 8), 0);
        Check.same("disk of another", other.disk(5), 0);
        Check.same("answered of another", other.answered(), 0);
        Check.same("line of another", other.line(), false);
        Check.same("state of another", other.read(112), 0);
        Check.same("ready of another", other.read(68), 0);
    }
}

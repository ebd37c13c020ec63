/** Promises 2 and 3: load and store. */
public final class MemoryTest {
    private static final long START = Machine.START;
    private static final long END = Machine.END;

    public static void main(String[] args) {
        lowestByteFirst();
        withoutSign();
        onlyTheLowestBytes();
        everyByteIsItsOwn();
        firstAndLastBytes();
        notInMemory();
        wrongSizes();
        refusedStoreLeavesMemory();
        Check.end();
    }

    /** "A number of n bytes stands in it with the lowest byte first." */
    private static void lowestByteFirst() {
        Device x = new Device(1);
        x.store(START + 16, 8, 0x0102030405060708L);
        for (int k = 0; k < 8; k++) {
            Check.same("byte " + k, x.load(START + 16 + k, 1), 8 - k);
        }
        Check.same("two", x.load(START + 16, 2), 0x0708);
        Check.same("four", x.load(START + 16, 4), 0x05060708);
        Check.same("eight", x.load(START + 16, 8), 0x0102030405060708L);
        Check.same("four at an odd place", x.load(START + 19, 4), 0x02030405);
        Check.same("eight at an odd place", x.load(START + 17, 8), 0x0001020304050607L);
    }

    /** "The number of size bytes in memory, without sign (eight bytes are what they are)." */
    private static void withoutSign() {
        Device x = new Device(1);
        x.store(START, 8, -1L);
        Check.same("one byte", x.load(START, 1), 255);
        Check.same("two bytes", x.load(START, 2), 65535);
        Check.same("four bytes", x.load(START, 4), 4294967295L);
        Check.same("eight bytes", x.load(START, 8), -1L);
        x.store(START, 8, Long.MIN_VALUE);
        Check.same("the least of eight", x.load(START, 8), Long.MIN_VALUE);
        Check.same("its highest four", x.load(START + 4, 4), 2147483648L);
        Check.same("its highest two", x.load(START + 6, 2), 32768);
        Check.same("its highest one", x.load(START + 7, 1), 128);
        x.store(START, 8, Long.MAX_VALUE);
        Check.same("the most of eight", x.load(START, 8), Long.MAX_VALUE);
    }

    /** "The lowest size bytes of v are put into memory." */
    private static void onlyTheLowestBytes() {
        long[] words = {0x1122334455667788L, 0xFFEEDDCCBBAA9988L, 0, -1L, Long.MIN_VALUE, 256, 65536, 1L << 32};
        for (int size = 1; size <= 8; size *= 2) {
            long mask = size == 8 ? -1L : (1L << 8 * size) - 1;
            for (long word : words) {
                Device x = new Device(1);
                x.store(START, 8, 0x5555555555555555L);
                x.store(START + 8, 8, 0x6666666666666666L);
                x.store(START + 16, 8, 0x7777777777777777L);
                x.store(START + 8, size, word);
                Check.same("stored " + size, x.load(START + 8, 8), word & mask | 0x6666666666666666L & ~mask);
                Check.same("behind " + size, x.load(START + 16, 8), 0x7777777777777777L);
                Check.same("before " + size, x.load(START, 8), 0x5555555555555555L);
            }
        }
    }

    private static void everyByteIsItsOwn() {
        Device x = new Device(1);
        for (int k = 0; k < 250; k++) {
            x.store(START + 262L * k, 1, k + 1);
        }
        for (int k = 0; k < 250; k++) {
            Check.same("byte at " + 262 * k, x.load(START + 262L * k, 1), k + 1);
        }
    }

    /** "MEMORY has 65,536 bytes, at the addresses 2^31 on": its first and its last number of each size. */
    private static void firstAndLastBytes() {
        Device x = new Device(1);
        for (int size = 1; size <= 8; size *= 2) {
            x.store(START, size, size + 1);
            Check.same("at the start " + size, x.load(START, size), size + 1);
            x.store(END - size, size, size + 2);
            Check.same("at the end " + size, x.load(END - size, size), size + 2);
        }
    }

    /** "IndexOutOfBoundsException: one is not in memory." */
    private static void notInMemory() {
        for (int size = 1; size <= 8; size *= 2) {
            Device x = new Device(1);
            for (int k = 1; k <= size; k++) {
                refused(x, START - k, size);
                refused(x, END - size + k, size);
            }
            long[] outside = {0, 1, -1, -2, -8, START - 9, END + 1, START | 1L << 32, START | 1L << 63, -START,
                -START - 65536, Long.MIN_VALUE, Long.MIN_VALUE + START, Long.MIN_VALUE + START - 1, Long.MAX_VALUE,
                Long.MAX_VALUE - 7, 65535, 65536, 1L << 32, END | 1L << 33};
            for (long a : outside) {
                refused(x, a, size);
            }
        }
    }

    private static void refused(Device x, long address, int size) {
        Check.refused("load " + address + " " + size, Check.BOUNDS, () -> x.load(address, size));
        Check.refused("store " + address + " " + size, Check.BOUNDS, () -> x.store(address, size, 1));
    }

    /** "IllegalArgumentException: size is not 1, 2, 4 or 8"; it is told of first, as it stands first. */
    private static void wrongSizes() {
        Device x = new Device(1);
        int[] far = {9, 10, 12, 15, 16, 17, 32, 64, 256, 257, 65536, 1 << 31 | 1, Integer.MAX_VALUE, Integer.MIN_VALUE};
        for (int s : far) {
            wrongSize(x, s);
        }
        for (int s = -9; s <= 9; s++) {
            if (s != 1 && s != 2 && s != 4 && s != 8) {
                wrongSize(x, s);
            }
        }
    }

    private static void wrongSize(Device x, int size) {
        Check.refused("load of " + size, Check.ARGUMENT, () -> x.load(START, size));
        Check.refused("store of " + size, Check.ARGUMENT, () -> x.store(START, size, 1));
        Check.refused("load outside of " + size, Check.ARGUMENT, () -> x.load(0, size));
        Check.refused("store outside of " + size, Check.ARGUMENT, () -> x.store(0, size, 1));
    }

    /** A call that is refused puts nothing, also no bytes that would have been in memory. */
    private static void refusedStoreLeavesMemory() {
        Device x = new Device(1);
        for (int size = 2; size <= 8; size *= 2) {
            for (int k = 1; k < size; k++) {
                refused(x, START - k, size);
                refused(x, END - size + k, size);
            }
        }
        Check.refused("size 3", Check.ARGUMENT, () -> x.store(START, 3, -1L));
        Check.refused("size 0", Check.ARGUMENT, () -> x.store(START, 0, -1L));
        Check.refused("size 16", Check.ARGUMENT, () -> x.store(START, 16, -1L));
        Check.same("the end is left", x.load(END - 8, 8), 0);
        Check.same("the start is left", x.load(START, 8), 0);
    }
}

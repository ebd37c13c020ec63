/** Promises 2 and 3: load and store. */
public final class MemoryTest {
    private static final long START = Machine.START;
    private static final long END = Machine.END;

    public static void main(String[] args) {
        lowestByteFirst();
        withoutSign();
        onlyTheLowestBytes();
        edges();
        wrongSizes();
        refusedStoreLeavesMemory();
        Check.end();
    }

    private static void lowestByteFirst() {
        QueueDisk x = new QueueDisk(1);
        x.store(START + 16, 8, 0x0102030405060708L);
        for (int k = 0; k < 8; k++) {
            Check.same("byte " + k, x.load(START + 16 + k, 1), 8 - k);
        }
        Check.same("two", x.load(START + 16, 2), 0x0708);
        Check.same("four", x.load(START + 16, 4), 0x05060708);
        Check.same("eight", x.load(START + 16, 8), 0x0102030405060708L);
        Check.same("four at an odd place", x.load(START + 19, 4), 0x02030405);
        Check.same("eight at an odd place", x.load(START + 17, 8), 0x0001020304050607L);
    }

    private static void withoutSign() {
        QueueDisk x = new QueueDisk(1);
        x.store(START, 8, -1L);
        Check.same("one byte", x.load(START, 1), 255);
        Check.same("two bytes", x.load(START, 2), 65535);
        Check.same("four bytes", x.load(START, 4), 4294967295L);
        Check.same("eight bytes", x.load(START, 8), -1L);
        x.store(START, 8, Long.MIN_VALUE);
        Check.same("the least", x.load(START, 8), Long.MIN_VALUE);
    }

    private static void onlyTheLowestBytes() {
        for (int size = 1; size <= 8; size *= 2) {
            QueueDisk x = new QueueDisk(1);
            x.store(START + 8, 8, -1L);
            x.store(START + 16, 8, -1L);
            x.store(START + 8, size, 0x1122334455667788L);
            long mask = size == 8 ? -1L : (1L << 8 * size) - 1;
            Check.same("stored " + size, x.load(START + 8, 8), 0x1122334455667788L & mask | ~mask);
            Check.same("behind " + size, x.load(START + 16, 8), -1L);
            Check.same("before " + size, x.load(START, 8), 0);
        }
    }

    private static void edges() {
        QueueDisk x = new QueueDisk(1);
        for (int size = 1; size <= 8; size *= 2) {
            final int s = size;
            x.store(START, s, s + 1);
            Check.same("at the start " + s, x.load(START, s), s + 1);
            x.store(END - s, s, s + 2);
            Check.same("at the end " + s, x.load(END - s, s), s + 2);
            long[] outside = {START - 1, END - s + 1, END, 0, -1, START - s, Long.MIN_VALUE, Long.MAX_VALUE,
                START | 1L << 32, START | 1L << 63, -START, Long.MIN_VALUE + START - 1, (1L << 31) - 1};
            for (long a : outside) {
                Check.refused("load " + a + " " + s, Check.BOUNDS, () -> x.load(a, s));
                Check.refused("store " + a + " " + s, Check.BOUNDS, () -> x.store(a, s, 1));
            }
        }
    }

    private static void wrongSizes() {
        QueueDisk x = new QueueDisk(1);
        int[] sizes = {0, -1, 3, 5, 6, 7, 9, 16, 32, 65536, Integer.MAX_VALUE, Integer.MIN_VALUE};
        for (int s : sizes) {
            Check.refused("load of " + s, Check.ARGUMENT, () -> x.load(START, s));
            Check.refused("store of " + s, Check.ARGUMENT, () -> x.store(START, s, 1));
            // The size is told of first, also where the address is wrong too.
            Check.refused("load outside of " + s, Check.ARGUMENT, () -> x.load(0, s));
            Check.refused("store outside of " + s, Check.ARGUMENT, () -> x.store(0, s, 1));
        }
    }

    private static void refusedStoreLeavesMemory() {
        QueueDisk x = new QueueDisk(1);
        Check.refused("over the end", Check.BOUNDS, () -> x.store(END - 4, 8, -1L));
        Check.same("the end is left", x.load(END - 8, 8), 0);
        Check.refused("over the start", Check.BOUNDS, () -> x.store(START - 4, 8, -1L));
        Check.same("the start is left", x.load(START, 8), 0);
        Check.refused("size 3", Check.ARGUMENT, () -> x.store(START, 3, -1L));
        Check.same("size 3 left it", x.load(START, 8), 0);
    }
}

import java.util.Random;

/** Random runs of calls, the same ones each time: the class answers as the plain model does. */
public final class RandomRunsTest {
    private static final long START = Machine.START;
    private static final long END = Machine.END;
    private static final int RUNS = 4000;
    private static final int CALLS_OF_A_ROUND = 160;
    private static final int CALLS_AT_THE_END = 150;
    private static final int[] SIZES = {1, 2, 4, 8, 16, 4, 8, 16, 16};
    private static final int[] KINDS = {0, 0, 0, 1, 1, 1, 4, 8, 8, 2, 99, -1};

    private final Random dice;
    private final Device disk;
    private final PlainModel model;
    private final String run;
    private final int sectors;
    private int size = 16;
    private int offered = 0;
    private int cursor = 0;
    private final int perturbed;
    private long blocks;
    private long offers;
    private long answers;

    private RandomRunsTest(int seed) {
        dice = new Random(seed);
        run = "run " + seed + " ";
        sectors = dice.nextInt(4) == 0 ? dice.nextInt(2060) - 5 : 1 + dice.nextInt(80);
        disk = new Device(sectors);
        model = new PlainModel(sectors);
        perturbed = new int[] {20, 200, 100000}[dice.nextInt(3)];
    }

    public static void main(String[] args) {
        int answered = 0;
        int broken = 0;
        int changed = 0;
        for (int seed = 1; seed <= RUNS; seed++) {
            RandomRunsTest r = new RandomRunsTest(seed);
            broken += r.play();
            answered += r.model.answered();
            changed += r.model.changed();
        }
        System.out.println(answered + " requests answered, " + changed + " sectors written, broken " + broken + " times");
        Check.same("runs that reach far", answered > RUNS && changed > RUNS && broken > RUNS / 2, true);
        Check.end();
    }

    private int play() {
        int broken = 0;
        setUp();
        while (disk.callsLeft() > CALLS_OF_A_ROUND + CALLS_AT_THE_END) {
            for (int k = rarely(2) ? 0 : dice.nextInt(3); k >= 0; k--) {
                chain();
            }
            if (rarely(8)) strayCalls();
            write(80, rarely(20) ? dice.nextInt(3) : 0);
            compare();
            if ((model.read(112) & 64) != 0) {
                broken++;
                setUp();
            }
        }
        compareAtTheEnd();
        return broken;
    }

    private boolean rarely(int n) {
        return dice.nextInt(n) == 0;
    }

    private boolean slip() {
        return rarely(perturbed);
    }

    private long near(long start, long end) {
        switch (dice.nextInt(4)) {
            case 0: return start - 3 + dice.nextInt(6);
            case 1: return end - 20 + dice.nextInt(24);
            case 2: return dice.nextLong();
            default: return (start + dice.nextInt(65536)) | 1L << 32 + dice.nextInt(32);
        }
    }

    /** A place in memory, mostly in the part that is meant for such things. */
    private long within(int from, int count) {
        return rarely(30) ? START + dice.nextInt(65000) : START + from + dice.nextInt(count);
    }

    private void setUp() {
        write(112, 0);
        offered = 0;
        size = SIZES[dice.nextInt(SIZES.length)];
        blocks = rarely(40) ? near(START, END) : within(0, 0x700);
        offers = rarely(40) ? near(START, END) : within(0x800, 0x700);
        answers = rarely(40) ? near(START, END) : within(0x1000, 0x700);
        write(56, size);
        if (rarely(10)) write(56, dice.nextInt(40) - 3);
        address(128, blocks);
        address(144, offers);
        address(160, answers);
        put(offers, 8, 0);
        write(68, 1);
        write(112, rarely(20) ? dice.nextInt(256) : 15);
        if (rarely(3)) setDisk(dice.nextInt(512), dice.nextInt());
    }

    private void address(int offset, long v) {
        write(offset, (int) v);
        write(offset + 4, (int) (v >>> 32));
    }

    private void chain() {
        int n = 2 + dice.nextInt(Math.max(1, Math.min(size, 6) - 1));
        int first = cursor % size;
        cursor += n;
        int closed = n == 2 ? 1 : 1 + dice.nextInt(n - 1);
        long head = within(0x1800, 0x700);
        int kind = KINDS[dice.nextInt(KINDS.length)];
        put(head, 4, slip() ? dice.nextInt() : kind);
        int sector = dice.nextInt(Math.max(1, sectors + 2));
        put(head + 8, 8, slip() ? dice.nextLong() : sector);
        if (kind == 0) setDisk(512 * sector + dice.nextInt(1024), dice.nextInt());
        // Lengths that together are whole sectors, more often than not.
        int rest = 512 * dice.nextInt(rarely(6) ? 67 : 4);
        for (int k = 0; k < n; k++) {
            boolean open = k >= closed;
            boolean last = k == n - 1;
            boolean lastOfData = last || k == closed - 1;
            int length = lastOfData ? rest : dice.nextInt(rest + 1);
            rest = k == closed - 1 ? 512 * dice.nextInt(4) : rest - length;
            if (k == 0) {
                length = 16 + (slip() ? dice.nextInt(4) - 2 : 0);
                rest = 512 * dice.nextInt(rarely(6) ? 67 : 4);
            }
            if (last) length++;
            if (slip()) length += dice.nextInt(5) - 2;
            int marks = (open ? 2 : 0) | (last ? 0 : 1) | (rarely(6) ? dice.nextInt(65536) & ~7 : 0);
            if (slip()) marks ^= 1 << dice.nextInt(3);
            int number = (first + k) % size;
            int next = slip() ? dice.nextInt(size + 2) : (number + 1) % size;
            long at = k == 0 ? head : within(0x2000, 0x3000);
            if (k != 0 && rarely(10)) at = END - length;
            if (slip()) at = near(START, END - length);
            if (k > 0 && !open && length >= 8) put(at + dice.nextInt(length - 7), 8, dice.nextLong());
            block(number, at, length, marks, next);
        }
        put(offers + 4 + 2L * (offered % size), 2, slip() ? dice.nextInt(size + 2) : first);
        offered++;
        put(offers + 2, 2, slip() ? offered + dice.nextInt(size + 2) : offered);
        if (rarely(10)) put(offers, 2, dice.nextInt(4));
    }

    private void block(int k, long at, int length, int marks, int next) {
        put(blocks + 16L * k, 8, at);
        put(blocks + 16L * k + 8, 8, length & 4294967295L | (long) marks << 32 | (long) next << 48);
    }

    private void strayCalls() {
        for (int k = dice.nextInt(6); k >= 0; k--) {
            int offset = rarely(6) ? dice.nextInt(530) - 10 : 4 * dice.nextInt(66);
            if (offset != 112 && offset != 68) write(offset, rarely(2) ? dice.nextInt() : dice.nextInt(4));
            read(offset);
            put(near(START, END), rarely(5) ? dice.nextInt(10) : 1 << dice.nextInt(4), dice.nextLong());
            get(near(START, END), rarely(5) ? dice.nextInt(10) : 1 << dice.nextInt(4));
            setDisk(dice.nextInt(sectors < 1 ? 3000000 : sectors * 520) - 8, dice.nextInt());
        }
        write(48, rarely(4) ? dice.nextInt(2) : 0);
        write(100, dice.nextInt(4));
    }

    private static long ask(java.util.function.LongSupplier call) {
        try {
            return call.getAsLong();
        } catch (IllegalArgumentException e) {
            return -1111;
        } catch (IndexOutOfBoundsException e) {
            return e.getClass() == IndexOutOfBoundsException.class ? -2222 : -3333;
        }
    }

    private static long tell(Runnable call) {
        return ask(() -> {
            call.run();
            return 0;
        });
    }

    private void write(int offset, int v) {
        Check.same(run + "write " + offset + " " + v,
            tell(() -> disk.write(offset, v)), tell(() -> model.write(offset, v)));
    }

    private void read(int offset) {
        Check.same(run + "read " + offset, ask(() -> disk.read(offset)), ask(() -> model.read(offset)));
    }

    private void put(long at, int count, long v) {
        Check.same(run + "store " + at + " " + count,
            tell(() -> disk.store(at, count, v)), tell(() -> model.store(at, count, v)));
    }

    private void get(long at, int count) {
        Check.same(run + "load " + at + " " + count,
            ask(() -> disk.load(at, count)), ask(() -> model.load(at, count)));
    }

    private void setDisk(int place, int v) {
        Check.same(run + "setDisk " + place,
            tell(() -> disk.setDisk(place, v)), tell(() -> model.setDisk(place, v)));
        look(place);
    }

    private void compare() {
        read(112);
        read(96);
        read(68);
        Check.same(run + "line", disk.line(), model.line());
        Check.same(run + "answered", disk.answered(), model.answered());
        Check.same(run + "changed", disk.changed(), model.changed());
        for (int k = 0; k < 4; k++) {
            get(answers + 2 + 8L * k, 8);
        }
    }

    /** All calls that are left go to what was written, and to what stands beside it. */
    private void compareAtTheEnd() {
        for (int offset = 0; offset <= 256; offset += 4) {
            if (RegistersTest.atFirst(offset, 1) != 0 || offset == 68 || offset == 96 || offset == 112) read(offset);
        }
        while (disk.callsLeft() >= 2) {
            int size = 1 << dice.nextInt(4);
            get(placeInMemory() - dice.nextInt(size), size);
            look(model.touchedOnDisk().isEmpty() || rarely(5) ? dice.nextInt(512) : placeOnDisk());
        }
    }

    /** A place that was written, and more often than not one that is no 0. */
    private long placeInMemory() {
        long at = START;
        for (int k = 0; k < 8 && model.load(at, 1) == 0; k++) {
            at = model.touched().get(dice.nextInt(model.touched().size()));
        }
        return at;
    }

    private int placeOnDisk() {
        int at = 0;
        for (int k = 0; k < 8 && model.disk(at) == 0; k++) {
            at = model.touchedOnDisk().get(dice.nextInt(model.touchedOnDisk().size()));
        }
        return at + dice.nextInt(3) - 1;
    }

    private void look(int place) {
        Check.same(run + "disk " + place, ask(() -> disk.disk(place)), ask(() -> model.disk(place)));
    }
}

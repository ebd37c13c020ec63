/** Promises 4 and 5: what registers read, and what writing them does without a request. */
public final class RegistersTest {
    public static void main(String[] args) {
        readings();
        offsets();
        offered();
        chosenQueue();
        state();
        readyKeepsTheQueue();
        sizes();
        reset();
        halvesOfPlaces();
        Check.end();
    }

    private static long due(int offset) {
        switch (offset) {
            case 0: return 1953655158;
            case 4: return 2;
            case 8: return 2;
            case 16: return 512;
            case 52: return 16;
            case 256: return 5;
            default: return 0;
        }
    }

    private static void readings() {
        QueueDisk x = new QueueDisk(5);
        for (int o = 0; o <= 508; o += 4) {
            Check.same("register " + o, x.read(o), due(o));
        }
        // Not the ones whose words are heard, nor 80: those that are not told lose what is written.
        for (int o = 0; o <= 508; o += 4) {
            if (o != 20 && o != 48 && o != 68 && o != 112) {
                x.write(o, -1);
            }
        }
        for (int o = 0; o <= 508; o += 4) {
            Check.same("register " + o + " after writing all", x.read(o), due(o));
        }
        x.write(20, 7);
        Check.same("20 is kept but not told", x.read(20), 0);
        x.write(48, 7);
        Check.same("48 is kept but not told", x.read(48), 0);
    }

    private static void offsets() {
        QueueDisk x = new QueueDisk(1);
        int[] none = {-1, -4, 1, 2, 3, 5, 510, 509, 511, 512, 516, 1024, 65536,
            Integer.MAX_VALUE, Integer.MIN_VALUE, Integer.MAX_VALUE - 3};
        for (int o : none) {
            Check.refused("read " + o, Check.BOUNDS, () -> x.read(o));
            Check.refused("write " + o, Check.BOUNDS, () -> x.write(o, 0));
        }
        x.write(508, 1);
        Check.same("508", x.read(508), 0);
    }

    private static void offered() {
        QueueDisk x = new QueueDisk(1);
        int[] words = {1, 2, -1, 0, Integer.MIN_VALUE, 256, 1, 512, 0};
        for (int w : words) {
            x.write(20, w);
            Check.same("offered at " + w, x.read(16), w == 0 ? 512 : w == 1 ? 1 : 0);
        }
    }

    private static void chosenQueue() {
        QueueDisk x = new QueueDisk(1);
        x.write(48, 1);
        Check.same("most of no queue", x.read(52), 0);
        x.write(68, 1);
        Check.same("no queue is not ready", x.read(68), 0);
        x.write(48, 0);
        Check.same("what was written to it is lost", x.read(68), 0);
        x.write(68, 1);
        Check.same("ready", x.read(68), 1);
        x.write(48, Integer.MIN_VALUE);
        Check.same("ready is not told of another", x.read(68), 0);
        x.write(68, 0);
        x.write(48, 0);
        Check.same("still ready", x.read(68), 1);
        x.write(68, 2);
        Check.same("only bit 0 makes ready", x.read(68), 0);
        x.write(68, 3);
        Check.same("bit 0 with others", x.read(68), 1);
        x.write(68, -2);
        Check.same("no more ready", x.read(68), 0);
        Check.same("most of the queue", x.read(52), 16);
    }

    private static void state() {
        QueueDisk x = new QueueDisk(1);
        x.write(112, 0x1234567F);
        Check.same("the lowest eight bits", x.read(112), 0x7F);
        x.write(112, 3);
        Check.same("bit 6 stays", x.read(112), 67);
        x.write(112, 256);
        Check.same("a word other than 0 is no reset", x.read(112), 64);
        x.write(112, 0);
        Check.same("reset", x.read(112), 0);
        x.write(112, 512);
        Check.same("eight zero bits", x.read(112), 0);
        x.write(112, -65);
        Check.same("all but bit 6", x.read(112), 0xBF);
        x.write(112, 1);
        Check.same("other bits go", x.read(112), 1);
        Check.same("no cause by that", x.line(), false);
    }

    /** While the queue is ready, or another one is chosen, its size and places stand. */
    private static void readyKeepsTheQueue() {
        int[] offsets = {56, 128, 132, 144, 148, 160, 164};
        for (int o : offsets) {
            Machine m = new Machine(1, 4);
            m.disk.write(o, o == 56 ? 1 : 0x40000000);
            serves(m, "ready keeps " + o);
            m = new Machine(1, 4);
            m.disk.write(68, 0);
            m.disk.write(48, 9);
            m.disk.write(o, o == 56 ? 1 : 0x40000000);
            m.disk.write(48, 0);
            m.disk.write(68, 1);
            serves(m, "another one keeps " + o);
            m = new Machine(1, 4);
            m.disk.write(68, 0);
            m.disk.write(o, o == 56 ? 1 : 0x40000000);
            m.disk.write(68, 1);
            m.two(4, 0);
            m.offerAndKick(0);
            m.expectBroken("changed " + o);
        }
        // With another one chosen the device works all the same.
        Machine m = new Machine(1, 4);
        m.disk.write(48, 9);
        serves(m, "another one chosen");
    }

    private static void serves(Machine m, String what) {
        m.two(4, 0);
        m.offerAndKick(0);
        m.expectAnswered(what, 1);
        Check.same(what + ": result", m.result(), 0);
    }

    /** A size is told by which block numbers the device takes. */
    private static void sizes() {
        for (int word = -1; word <= 33; word++) {
            boolean good = word == 1 || word == 2 || word == 4 || word == 8 || word == 16;
            Machine m = new Machine(1, 4);
            m.disk.write(68, 0);
            m.disk.write(56, word);
            m.disk.write(68, 1);
            int size = good ? word : 4;
            sizeIs(m, size, "size after " + word);
        }
        Machine m = new Machine(1, 4);
        m.disk.write(112, 0);
        m.setAddress(128, Machine.BLOCKS);
        m.setAddress(144, Machine.OFFERS);
        m.setAddress(160, Machine.ANSWERS);
        m.disk.write(68, 1);
        m.disk.write(112, 15);
        sizeIs(m, 16, "size at first");
    }

    private static void sizeIs(Machine m, int size, String what) {
        if (size > 1) {
            m.head(Machine.HEADS, 4, 0);
            m.block(size - 1, Machine.HEADS, 16, 1, 0);
            m.block(0, Machine.RESULT, 1, 2, 0);
            m.offerAndKick(size - 1);
            m.expectAnswered(what, 1);
        }
        int before = m.disk.answered();
        m.block(0, Machine.HEADS, 16, 1, size);
        m.block(size, Machine.RESULT, 1, 2, 0);
        m.disk.store(Machine.OFFERS + 2, 2, before + 1);
        m.disk.store(Machine.OFFERS + 4 + 2L * (before % size), 2, 0);
        m.kick();
        Check.same(what + ": a block behind it breaks", m.disk.read(112), 79);
        Check.same(what + ": and is not answered", m.disk.answered(), before);
    }

    private static void reset() {
        Machine m = new Machine(1, 4);
        m.two(4, 0);
        m.offerAndKick(0);
        m.disk.write(20, 1);
        m.disk.write(48, 1);
        m.disk.write(112, 0);
        for (int o = 0; o <= 508; o += 4) {
            Check.same("register " + o + " after a reset", m.disk.read(o), o == 256 ? 1 : due(o));
        }
        Check.same("line after a reset", m.disk.line(), false);
        Check.same("answered stays", m.disk.answered(), 1);
        Check.same("memory stays", m.answerCount(), 1);
        // The counts begin anew: the old offer is ahead by one again, and its answer takes place 0.
        m.setUp();
        m.disk.write(112, 15);
        m.disk.store(Machine.ANSWERS + 2, 2, 77);
        m.kick();
        Check.same("answered anew", m.disk.answered(), 2);
        Check.same("count of answers anew", m.answerCount(), 1);
        // The places of the queue are 0 after a reset.
        int[] addresses = {128, 144, 160};
        for (int left : addresses) {
            Machine n = new Machine(1, 4);
            n.disk.write(112, 0);
            for (int o : addresses) {
                if (o != left) {
                    n.disk.write(o, (int) (o == 128 ? Machine.BLOCKS : o == 144 ? Machine.OFFERS : Machine.ANSWERS));
                }
            }
            n.disk.write(68, 1);
            n.disk.write(112, 15);
            n.two(4, 0);
            n.offerAndKick(0);
            n.expectBroken("place " + left + " is 0 after a reset");
        }
    }

    /** Each half of a place is kept by itself, all its bits count, and a reset clears both. */
    private static void halvesOfPlaces() {
        int[] lowers = {128, 144, 160};
        for (int lower : lowers) {
            for (int bit = 0; bit < 32; bit++) {
                Machine m = new Machine(1, 4);
                m.disk.write(68, 0);
                m.disk.write(lower + 4, 1 << bit);
                m.disk.write(68, 1);
                m.two(4, 0);
                m.offerAndKick(0);
                m.expectBroken("bit " + bit + " of " + (lower + 4));
            }
            Machine m = new Machine(1, 4);
            m.disk.write(68, 0);
            m.disk.write(lower + 4, -1);
            m.disk.write(lower + 4, 0);
            m.disk.write(68, 1);
            serves(m, "the lower half of " + lower + " stays");
            m = new Machine(1, 4);
            m.disk.write(68, 0);
            m.disk.write(lower + 4, -1);
            m.disk.write(112, 0);
            m.disk.write(56, 4);
            m.disk.write(128, (int) Machine.BLOCKS);
            m.disk.write(144, (int) Machine.OFFERS);
            m.disk.write(160, (int) Machine.ANSWERS);
            m.disk.write(68, 1);
            m.disk.write(112, 15);
            serves(m, "a reset clears " + (lower + 4));
        }
    }
}

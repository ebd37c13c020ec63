/** Promises 4 and 5: what registers read, and what writing them does without a request. */
public final class RegistersTest {
    private static final int[] OF_THE_QUEUE = {56, 128, 132, 144, 148, 160, 164};

    public static void main(String[] args) {
        offsets();
        refusedWriteDoesNothing();
        notToldIsLost();
        eachWordGoesToItsOwnRegister();
        notToldBetweenThePlaces();
        offered();
        mostSizeAndReady();
        lostWhenAnotherIsChosen();
        lostWhenReady();
        goodAndBadSizes();
        readyByBitZero();
        halvesOfPlaces();
        causesLoseBits();
        stateIsTheLowestEightBits();
        bitSixStays();
        resetOfRegisters();
        resetOfTheQueue();
        resetOfWhatTheDeviceKnows();
        resetLeavesTheRest();
        Check.end();
    }

    static long atFirst(int offset, int sectors) {
        switch (offset) {
            case 0: return 1953655158;
            case 4: return 2;
            case 8: return 2;
            case 16: return 512;
            case 52: return 16;
            case 256: return sectors;
            default: return 0;
        }
    }

    private static void serves(Machine m, String what) {
        m.two(4, 0);
        m.offerAndKick(0);
        m.expectAnswered(what, 1);
        Check.same(what + ": result", m.result(), 0);
    }

    /** "REGISTERS have 32 bits, at offsets that 4 divides, from 0 to 508"; elsewhere "there is none". */
    private static void offsets() {
        for (int o = -24; o <= 540; o++) {
            offset(o, o >= 0 && o <= 508 && o % 4 == 0);
        }
        int[] far = {-4096, -512, -508, 1020, 1024, 65536, 65648, 1 << 30, Integer.MAX_VALUE, Integer.MAX_VALUE - 3,
            Integer.MIN_VALUE, Integer.MIN_VALUE + 112};
        for (int o : far) {
            offset(o, false);
        }
    }

    private static void offset(int o, boolean there) {
        Device x = new Device(1);
        Check.refused("read " + o, there ? null : Check.BOUNDS, () -> x.read(o));
        Check.refused("write " + o, there ? null : Check.BOUNDS, () -> x.write(o, 1));
    }

    private static void refusedWriteDoesNothing() {
        Machine m = new Machine(1, 4);
        m.two(4, 0);
        m.offer(0);
        int[] none = {81, 82, 83, 78, 79, 592, -80, 69, 113, 114, 115, 624, 111, 512, -4};
        for (int o : none) {
            Check.refused("write " + o, Check.BOUNDS, () -> m.disk.write(o, 0));
        }
        m.expectAnswered("refused writes", 0);
        Check.same("still ready", m.disk.read(68), 1);
        m.kick();
        m.expectAnswered("then a good one", 1);
    }

    /** "what is not told reads 0, and what is written to it is lost" */
    private static void notToldIsLost() {
        int[] words = {-1, 1};
        for (int w : words) {
            Device x = new Device(5);
            for (int o = 0; o <= 508; o += 4) {
                if (o != 20 && o != 48 && o != 68 && o != 112) {
                    x.write(o, w);
                }
            }
            for (int o = 0; o <= 508; o += 4) {
                Check.same("register " + o + " after writing " + w, x.read(o), atFirst(o, 5));
            }
            x.write(20, 7);
            Check.same("20 keeps its word, but does not tell it", x.read(20), 0);
            x.write(48, 7);
            Check.same("48 keeps its word, but does not tell it", x.read(48), 0);
        }
    }

    /** One word into one register of a running device with one request answered and one more offered. */
    private static void eachWordGoesToItsOwnRegister() {
        int[] words = {0, 1, 2, -1};
        for (int o = 0; o <= 508; o += 4) {
            for (int w : words) {
                if (o != 112) {
                    oneWord(o, w);
                }
            }
        }
    }

    private static void oneWord(int o, int w) {
        String what = "after " + w + " to " + o + ": ";
        Machine m = new Machine(9, 4);
        m.two(4, 0);
        m.offerAndKick(0);
        m.offer(0);
        m.disk.write(o, w);
        boolean other = o == 48 && w != 0;
        boolean ready = o != 68 || w % 2 != 0;
        Check.same(what + "16", m.disk.read(16), o != 20 || w == 0 ? 512 : w == 1 ? 1 : 0);
        Check.same(what + "52", m.disk.read(52), other ? 0 : 16);
        Check.same(what + "68", m.disk.read(68), ready && !other ? 1 : 0);
        Check.same(what + "96", m.disk.read(96), o == 100 && w % 2 != 0 ? 0 : 1);
        Check.same(what + "line", m.disk.line(), o != 100 || w % 2 == 0);
        Check.same(what + "112", m.disk.read(112), 15);
        Check.same(what + "256", m.disk.read(256), 9);
        Check.same(what + "answered", m.disk.answered(), o == 80 && w == 0 ? 2 : 1);
        m.kick();
        Check.same(what + "answered in the end", m.disk.answered(), ready ? 2 : 1);
        Check.same(what + "state in the end", m.disk.read(112), 15);
        Check.same(what + "count in the end", m.answerCount(), ready ? 2 : 1);
    }

    /** The offsets between the places of the queue are not told: what is written to them is lost. */
    private static void notToldBetweenThePlaces() {
        for (int o = 0; o <= 508; o += 4) {
            boolean told = o == 48 || o == 56 || o == 68 || o == 112;
            for (int place : OF_THE_QUEUE) {
                told |= o == place;
            }
            if (!told) {
                Machine m = new Machine(1, 4);
                m.disk.write(68, 0);
                m.disk.write(o, 2);
                m.disk.write(68, 1);
                serves(m, "2 to " + o + " of a queue that is not ready");
            }
        }
    }

    /** "512 if the word of offset 20 is 0, 1 if it is 1, else 0" */
    private static void offered() {
        Device x = new Device(1);
        int[] words = {0, 1, 2, 3, -1, 0, Integer.MIN_VALUE, Integer.MIN_VALUE + 1, 256, 257, 65536, 65537, 1, 512, 0};
        for (int w : words) {
            x.write(20, w);
            Check.same("offered at " + w, x.read(16), w == 0 ? 512 : w == 1 ? 1 : 0);
            Check.same("offered at " + w + " once more", x.read(16), w == 0 ? 512 : w == 1 ? 1 : 0);
        }
    }

    /** "52: 16 if the one of 48 is 0, else 0. 68: 1 if the queue is READY and the one of 48 is 0, else 0." */
    private static void mostSizeAndReady() {
        int[] words = {0, 1, 2, 3, 256, 65536, -1, Integer.MIN_VALUE, Integer.MAX_VALUE};
        for (int ready = 0; ready < 2; ready++) {
            Device x = new Device(1);
            x.write(68, ready);
            for (int w : words) {
                x.write(48, w);
                Check.same("most size at " + w, x.read(52), w == 0 ? 16 : 0);
                Check.same("ready at " + w, x.read(68), w == 0 ? ready : 0);
            }
            x.write(48, 0);
            Check.same("most size at 0 again", x.read(52), 16);
            Check.same("ready at 0 again", x.read(68), ready);
        }
        Device x = new Device(1);
        for (int size = 1; size <= 16; size *= 2) {
            x.write(56, size);
            Check.same("the most is not the size", x.read(52), 16);
        }
    }

    /** "What is written to 56, 68 and 128 to 164 is lost when the word of 48 is not 0" */
    private static void lostWhenAnotherIsChosen() {
        int[] words = {1, 65536, Integer.MIN_VALUE};
        for (int w : words) {
            for (int o : OF_THE_QUEUE) {
                Machine m = new Machine(1, 4);
                m.disk.write(68, 0);
                m.disk.write(48, w);
                m.disk.write(o, o == 56 ? 1 : 0x40000000);
                m.disk.write(48, 0);
                m.disk.write(68, 1);
                serves(m, "at " + w + " nothing is kept at " + o);
            }
            Device x = new Device(1);
            x.write(48, w);
            x.write(68, 1);
            x.write(48, 0);
            Check.same("not made ready at " + w, x.read(68), 0);
            x.write(68, 1);
            x.write(48, w);
            x.write(68, 0);
            x.write(48, 0);
            Check.same("nor the other way at " + w, x.read(68), 1);
        }
        // 48 has no say in whether the device works.
        Machine m = new Machine(1, 4);
        m.disk.write(48, 9);
        serves(m, "another one chosen");
    }

    /** "and, but for 68, when the queue is ready" */
    private static void lostWhenReady() {
        for (int o : OF_THE_QUEUE) {
            int word = o == 56 ? 1 : 0x40000000;
            Machine m = new Machine(1, 4);
            m.disk.write(o, word);
            serves(m, "ready keeps " + o);
            m = new Machine(1, 4);
            m.disk.write(o, word);
            m.disk.write(68, 0);
            m.disk.write(68, 1);
            serves(m, "it is lost and not put off, at " + o);
            m = new Machine(1, 4);
            m.disk.write(68, 0);
            m.disk.write(o, word);
            m.disk.write(68, 1);
            m.two(4, 0);
            m.offerAndKick(0);
            m.expectBroken("not ready any more, so that it is kept at " + o);
        }
    }

    /** "56: the SIZE of the queue, if it is 1, 2, 4, 8 or 16, else it is lost" */
    private static void goodAndBadSizes() {
        for (int word = -17; word <= 33; word++) {
            sizeAfter(word);
        }
        int[] far = {64, 256, 257, 260, 65536, 65540, 1 << 20 | 8, Integer.MIN_VALUE, Integer.MIN_VALUE + 4,
            Integer.MAX_VALUE};
        for (int word : far) {
            sizeAfter(word);
        }
    }

    private static void sizeAfter(int word) {
        boolean good = word == 1 || word == 2 || word == 4 || word == 8 || word == 16;
        for (int before = 2; before <= 8; before += 6) {
            Machine m = new Machine(1, before);
            m.disk.write(68, 0);
            m.disk.write(56, word);
            m.disk.write(68, 1);
            sizeIs(m, good ? word : before, "size " + before + " after " + word);
        }
    }

    /** A size is told by which blocks the device takes. */
    private static void sizeIs(Machine m, int size, String what) {
        if (size > 1) {
            m.head(Machine.HEADS, 4, 0);
            m.block(size - 1, Machine.HEADS, 16, 1, 0);
            m.block(0, Machine.RESULT, 1, 2, 0);
            m.offerAndKick(size - 1);
            m.expectAnswered(what, 1);
        }
        int before = m.disk.answered();
        m.block(0, Machine.HEADS, 16, 1, size);
        m.block(size, Machine.RESULT, 1, 2, 0);
        m.disk.store(Machine.OFFERS + 2, 2, before + 1);
        m.disk.store(Machine.OFFERS + 4 + 2L * (before % size), 2, 0);
        m.kick();
        Check.same(what + ": a block behind it breaks", m.disk.read(112), 79);
        Check.same(what + ": and is not answered", m.disk.answered(), before);
    }

    /** "68: ready by its bit 0" */
    private static void readyByBitZero() {
        Device x = new Device(1);
        int[] words = {1, 0, 3, 2, -1, -2, Integer.MIN_VALUE + 1, Integer.MIN_VALUE, 257, 256, 1, 1, 0, 0};
        for (int w : words) {
            x.write(68, w);
            Check.same("ready by " + w, x.read(68), w % 2 != 0 ? 1 : 0);
        }
    }

    /** "128, 132: the lower, and the upper, 32 bits of where its BLOCKS are", and so on. */
    private static void halvesOfPlaces() {
        int[] lowers = {128, 144, 160};
        for (int lower : lowers) {
            for (int bit = 0; bit < 32; bit++) {
                Machine m = new Machine(1, 4);
                m.disk.write(68, 0);
                m.disk.write(lower + 4, 1 << bit);
                m.disk.write(68, 1);
                m.two(4, 0);
                m.offerAndKick(0);
                m.expectBroken("bit " + bit + " of " + (lower + 4));
            }
            lowerHalfStays(lower);
            upperHalfStays(lower);
        }
    }

    private static void lowerHalfStays(int lower) {
        Machine m = new Machine(1, 4);
        m.disk.write(68, 0);
        m.disk.write(lower + 4, -1);
        m.disk.write(lower + 4, 0);
        m.disk.write(68, 1);
        serves(m, "the lower half of " + lower + " stays");
    }

    private static void upperHalfStays(int lower) {
        long place = lower == 128 ? Machine.BLOCKS : lower == 144 ? Machine.OFFERS : Machine.ANSWERS;
        for (int upper = 0; upper < 2; upper++) {
            Machine m = new Machine(1, 4);
            m.disk.write(68, 0);
            m.disk.write(lower, -1);
            m.disk.write(lower + 4, upper);
            m.disk.write(lower, (int) place);
            m.disk.write(68, 1);
            m.two(4, 0);
            m.offerAndKick(0);
            Check.same("upper half " + upper + " of " + lower + " stays", m.disk.answered(), 1 - upper);
        }
    }

    /** "100: causes lose the bits of the word." */
    private static void causesLoseBits() {
        int[] words = {0, 1, 2, 3, 4, -1, -2, -3, -4, Integer.MIN_VALUE};
        for (int w : words) {
            Machine m = new Machine(1, 4);
            m.two(4, 0);
            m.offer(0);
            m.offerAndKick(7);
            Check.same("both causes", m.disk.read(96), 3);
            m.disk.write(100, w);
            Check.same("causes after " + w, m.disk.read(96), 3 & ~w);
            Check.same("line after " + w, m.disk.line(), (3 & ~w) != 0);
            Check.same("state after " + w, m.disk.read(112), 79);
        }
        Device x = new Device(1);
        x.write(100, -1);
        Check.same("no causes to lose", x.read(96), 0);
    }

    /** "otherwise the state becomes the lowest eight bits of the word" */
    private static void stateIsTheLowestEightBits() {
        int[] words = {1, 4, 15, 63, 128, 191, 256, 257, 0x12345600, 0x1234563F, -65, Integer.MIN_VALUE};
        Device x = new Device(1);
        for (int w : words) {
            x.write(112, w);
            Check.same("state after " + w, x.read(112), w & 255);
            Check.same("no cause by that", x.line(), false);
        }
        // Eight bits of 0 in a word that is not 0 are no reset.
        Machine m = new Machine(1, 4);
        serves(m, "before");
        m.disk.write(112, 256);
        Check.same("state", m.disk.read(112), 0);
        Check.same("ready stays", m.disk.read(68), 1);
        Check.same("causes stay", m.disk.read(96), 1);
        m.disk.write(112, 15);
        m.offerAndKick(0);
        m.expectAnswered("the queue stays", 2);
    }

    /** "(with bit 6, if it had that)", whether a driver or the device itself had set it */
    private static void bitSixStays() {
        Device x = new Device(1);
        x.write(112, 64);
        Check.same("bit 6", x.read(112), 64);
        int[] words = {1, 3, 15, 63, 128, 191, 256, -65, Integer.MIN_VALUE, 64, 255};
        for (int w : words) {
            x.write(112, w);
            Check.same("bit 6 and " + w, x.read(112), w & 255 | 64);
        }
        Machine m = new Machine(1, 4);
        m.two(4, 0);
        m.offerAndKick(4);
        m.expectBroken("broken");
        m.disk.write(112, 15);
        Check.same("broken stays", m.disk.read(112), 79);
        m.disk.write(112, 0);
        Check.same("until a reset", m.disk.read(112), 0);
        m.disk.write(112, 15);
        Check.same("bit 6 does not come back", m.disk.read(112), 15);
    }

    /** "112: 0: all registers, the queue, and what the device knows of it are as at first" */
    private static void resetOfRegisters() {
        Machine m = new Machine(6, 4);
        m.two(4, 0);
        m.offer(0);
        m.offerAndKick(9);
        m.disk.write(20, 1);
        m.disk.write(48, 1);
        m.disk.write(112, 0);
        for (int o = 0; o <= 508; o += 4) {
            Check.same("register " + o + " after a reset", m.disk.read(o), atFirst(o, 6));
        }
        Check.same("line after a reset", m.disk.line(), false);
    }

    private static void resetOfTheQueue() {
        Machine m = new Machine(1, 4);
        m.disk.write(112, 0);
        m.setPlaces();
        m.disk.write(68, 1);
        m.disk.write(112, 15);
        sizeIs(m, 16, "size after a reset");
        // The places: NewObjectTest.placesAtFirst() resets a machine, too.
        int[] uppers = {132, 148, 164};
        for (int upper : uppers) {
            m = new Machine(1, 4);
            m.disk.write(68, 0);
            m.disk.write(upper, -1);
            m.disk.write(112, 0);
            m.disk.write(56, 4);
            m.disk.write(128, (int) Machine.BLOCKS);
            m.disk.write(144, (int) Machine.OFFERS);
            m.disk.write(160, (int) Machine.ANSWERS);
            m.disk.write(68, 1);
            m.disk.write(112, 15);
            serves(m, "a reset clears " + upper);
        }
    }

    /** Its counts begin anew: the old offer is ahead by one again, and its answer takes place 0. */
    private static void resetOfWhatTheDeviceKnows() {
        Machine m = new Machine(1, 4);
        m.two(4, 0);
        m.offer(0);
        m.offerAndKick(0);
        Check.same("two answers", m.answerCount(), 2);
        m.disk.write(112, 0);
        m.setUp();
        m.disk.store(m.offers + 2, 2, 1);
        m.disk.store(m.answers + 4, 8, -1);
        m.disk.store(m.answers + 20, 8, -1);
        m.kick();
        m.expectAnswered("one more", 3);
        Check.same("count of answers anew", m.answerCount(), 1);
        Check.same("the answer is at place 0", m.answerLength(0), 1);
        Check.same("and not at place 2", m.answerLength(2), 4294967295L);
    }

    private static void resetLeavesTheRest() {
        Machine m = new Machine(3, 4);
        m.disk.setDisk(1535, 8);
        m.three(1, 0, 1024, false);
        m.offerAndKick(0);
        m.disk.write(112, 0);
        Check.same("memory", m.disk.load(Machine.HEADS, 4), 1);
        Check.same("disk", m.disk.disk(1535), 8);
        Check.same("sectors", m.disk.read(256), 3);
        Check.same("answered", m.disk.answered(), 1);
        Check.same("changed", m.disk.changed(), 2);
    }
}

/** Promise 5 at offset 80: when the device works, in which order, and how far. */
public final class WorkTest {
    private static final int NEXT = Machine.NEXT;
    private static final int OPEN = Machine.OPEN;
    private static final int READ = Machine.READ;
    private static final int FLUSH = Machine.FLUSH;
    private static final long HEADS = Machine.HEADS;
    private static final long RESULT = Machine.RESULT;
    private static final long DATA = Machine.DATA;

    public static void main(String[] args) {
        onlyByWordZero();
        onlyInTheRightState();
        onlyWhenReady();
        brokenByNothingWhenItDoesNotWork();
        nothingOffered();
        asManyAsTheSize();
        goesRound();
        answersByTheirOwnCount();
        numbersOfAnswers();
        allOffersOfOneWorking();
        offersOfTheWorkingItself();
        countsSurviveNotReady();
        anotherSizeInBetween();
        otherPlacesInBetween();
        sixtyFourAWorking();
        marksBehindTheLimit();
        limitBeforeBreaking();
        orderOfWrites();
        resultUnderTheAnswer();
        blocksOverOneAnother();
        blocksOverTheTable();
        dataOverTheOffers();
        Check.end();
    }

    private static Machine flusher(int size) {
        Machine m = new Machine(1, size);
        m.two(FLUSH, 0);
        return m;
    }

    /** "80: if it is 0, the device WORKS." */
    private static void onlyByWordZero() {
        int[] words = {1, 2, -1, 256, 65536, Integer.MIN_VALUE};
        for (int w : words) {
            Machine m = flusher(4);
            m.offer(0);
            m.disk.write(80, w);
            m.expectAnswered("word " + w, 0);
            m.kick();
            m.expectAnswered("then 0", 1);
        }
    }

    /** "nothing happens unless the state has bit 2, but not bit 6" */
    private static void onlyInTheRightState() {
        for (int s = 1; s < 256; s++) {
            Machine m = flusher(4);
            m.offer(0);
            m.disk.write(112, s);
            m.kick();
            boolean works = (s & 4) != 0 && (s & 64) == 0;
            Check.same("answered in state " + s, m.disk.answered(), works ? 1 : 0);
            Check.same("result in state " + s, m.result(), works ? 0 : 99);
            Check.same("state " + s, m.disk.read(112), s);
            Check.same("line in state " + s, m.disk.line(), works);
        }
    }

    /** "and the queue is ready" */
    private static void onlyWhenReady() {
        Machine m = flusher(4);
        m.offer(0);
        m.disk.write(68, 0);
        m.kick();
        m.expectAnswered("not ready", 0);
        m.disk.write(68, 1);
        m.expectAnswered("ready alone is not working", 0);
        m.kick();
        m.expectAnswered("ready", 1);
    }

    private static void brokenByNothingWhenItDoesNotWork() {
        int[] states = {11, 64 | 15};
        for (int s : states) {
            Machine m = flusher(4);
            m.offer(9);
            m.disk.write(112, s);
            m.kick();
            Check.same("state " + s, m.disk.read(112), s);
            Check.same("causes in state " + s, m.disk.read(96), 0);
        }
        Machine m = flusher(4);
        m.offer(9);
        m.disk.write(68, 0);
        m.kick();
        m.expectAnswered("not ready", 0);
    }

    /** "If that count is the one up to which the device has come (0 at first), .. that is all." */
    private static void nothingOffered() {
        Machine m = flusher(4);
        m.disk.store(m.answers, 8, -1);
        m.kick();
        m.expectAnswered("no offer", 0);
        for (int k = 1; k <= 9; k++) {
            m.offerAndKick(0);
            m.kick();
            m.kick();
            m.expectAnswered("offer " + k, k);
        }
    }

    /** "If it is ahead of that by more than n, the device BREAKS": by n, by n + 1, from several counts. */
    private static void asManyAsTheSize() {
        for (int size = 2; size <= 16; size *= 2) {
            int[] befores = {0, 1, size - 1, size, size + 1};
            for (int before : befores) {
                for (int ahead = size - 1; ahead <= size + 1; ahead++) {
                    Machine m = flusher(size);
                    for (int k = 0; k < before; k++) {
                        m.offerAndKick(0);
                    }
                    m.disk.write(100, 1);
                    m.disk.store(m.offers + 2, 2, before + ahead);
                    m.kick();
                    String what = "size " + size + ", from " + before + " on ahead by " + ahead;
                    boolean fits = ahead <= size;
                    Check.same(what + ": answered", m.disk.answered(), fits ? before + ahead : before);
                    Check.same(what + ": state", m.disk.read(112), fits ? 15 : 79);
                    Check.same(what + ": causes", m.disk.read(96), fits ? 1 : 2);
                    Check.same(what + ": count", m.answerCount(), fits ? before + ahead : before);
                }
            }
        }
    }

    /** "the number at the place of the latter modulo n", "at the place of ITS COUNT of answers .. modulo n" */
    private static void goesRound() {
        for (int size = 2; size <= 16; size *= 2) {
            Machine m = flusher(size);
            for (int k = 0; k < 33; k++) {
                // Another number now and then, so that the place of each can be told.
                int first = k % 3 == 0 && size > 2 ? 2 : 0;
                m.block(first, HEADS, 16, NEXT, 1);
                m.disk.store(m.answers + 4 + 8L * (k % size), 8, -1);
                m.offerAndKick(first);
                Check.same("number of " + k, m.answerNumber(k % size), first);
                Check.same("length of " + k, m.answerLength(k % size), 1);
                Check.same("count of " + k, m.answerCount(), k + 1);
                Check.same("answered at " + k, m.disk.answered(), k + 1);
            }
            Check.same("marks of the answers are not touched", m.disk.load(m.answers, 2), 0);
            Check.same("nor what is behind them", m.disk.load(m.answers + 4 + 8L * size, 8), 0);
        }
    }

    /** What a driver puts into the count of the answers has no say: the device has its own. */
    private static void answersByTheirOwnCount() {
        Machine m = flusher(4);
        m.offerAndKick(0);
        m.disk.store(m.answers + 2, 2, 3);
        m.disk.store(m.answers + 12, 8, -1);
        m.offerAndKick(0);
        m.expectAnswered("two", 2);
        Check.same("count", m.answerCount(), 2);
        Check.same("the second is at place 1", m.answerLength(1), 1);
        Check.same("none at place 3", m.answerLength(3), 0);
    }

    /** "an answer is put ..: the number, and how many bytes were written": four bytes each. */
    private static void numbersOfAnswers() {
        for (int first = 0; first < 16; first++) {
            Machine m = new Machine(1, 16);
            int last = (first + 5) % 16;
            m.head(HEADS, FLUSH, 0);
            m.block(first, HEADS, 16, NEXT, last);
            m.block(last, RESULT, 1, OPEN, first);
            m.disk.store(m.answers, 8, -1);
            m.disk.store(m.answers + 8, 8, -1);
            m.offerAndKick(first);
            m.expectAnswered("first block " + first, 1);
            Check.same("marks, count and number", m.disk.load(m.answers, 8), 0x1FFFFL | (long) first << 32);
            Check.same("length and behind it", m.disk.load(m.answers + 8, 8), 1 | -1L << 32);
        }
    }

    private static void allOffersOfOneWorking() {
        Machine m = new Machine(2, 16);
        for (int k = 0; k < 7; k++) {
            m.head(HEADS + 32L * k, k == 3 ? 99 : FLUSH, 0);
            m.block(2 * k, HEADS + 32L * k, 16, NEXT, 2 * k + 1);
            m.block(2 * k + 1, RESULT + k, 1, OPEN, 0);
            m.disk.store(RESULT + k, 1, 77);
        }
        for (int k = 6; k >= 0; k--) {
            m.offer(2 * k);
        }
        m.kick();
        m.expectAnswered("seven", 7);
        Check.same("count", m.answerCount(), 7);
        for (int k = 0; k < 7; k++) {
            Check.same("number " + k, m.answerNumber(k), 2 * (6 - k));
            Check.same("result " + k, m.disk.load(RESULT + k, 1), k == 3 ? 2 : 0);
        }
        for (int k = 0; k < 16; k++) {
            m.offer(0);
        }
        m.kick();
        m.expectAnswered("sixteen more", 23);
    }

    /** "again and again: the marks and the count of the offers are read": a result of 2 is a new count. */
    private static void offersOfTheWorkingItself() {
        Machine m = new Machine(1, 4);
        m.head(HEADS, 99, 0);
        m.block(0, HEADS, 16, NEXT, 1);
        m.block(1, m.offers + 2, 1, OPEN, 0);
        m.offerAndKick(0);
        m.expectAnswered("the count became 2", 2);
        Check.same("count of answers", m.answerCount(), 2);
    }

    private static void countsSurviveNotReady() {
        Machine m = flusher(4);
        m.offerAndKick(0);
        m.disk.write(68, 0);
        m.disk.write(68, 1);
        m.kick();
        m.expectAnswered("nothing anew", 1);
        m.offerAndKick(0);
        m.expectAnswered("the second", 2);
        Check.same("its place", m.answerLength(1), 1);
        m.disk.write(112, 3);
        m.disk.write(112, 15);
        m.kick();
        m.expectAnswered("nor by another state", 2);
    }

    /** The counts go on where the size becomes another one; their places are modulo the new one. */
    private static void anotherSizeInBetween() {
        int[][] sizes = {{4, 8}, {8, 4}, {16, 2}, {2, 16}};
        for (int[] pair : sizes) {
            Machine m = flusher(pair[0]);
            for (int k = 0; k < 5; k++) {
                m.offerAndKick(0);
            }
            m.disk.write(68, 0);
            m.disk.write(56, pair[1]);
            m.disk.write(68, 1);
            int place = 5 % pair[1];
            m.block(1, RESULT, 1, OPEN, 0);
            m.disk.store(m.answers + 4 + 8L * place, 8, -1);
            for (int slot = 0; slot < 16; slot++) {
                m.disk.store(m.offers + 4 + 2L * slot, 2, slot == place ? 0 : 9);
            }
            m.disk.store(m.offers + 2, 2, 6);
            m.kick();
            m.expectAnswered("size " + pair[0] + ", then " + pair[1], 6);
            Check.same("answer at the new place", m.disk.load(m.answers + 4 + 8L * place, 8), 1L << 32);
            Check.same("count of answers", m.answerCount(), 6);
        }
    }

    private static void otherPlacesInBetween() {
        Machine m = flusher(4);
        m.offerAndKick(0);
        m.offerAndKick(0);
        m.disk.write(68, 0);
        m.disk.write(144, (int) DATA);
        m.disk.write(160, (int) DATA + 0x1000);
        m.disk.write(68, 1);
        m.disk.store(DATA + 2, 2, 3);
        m.kick();
        m.expectAnswered("offers and answers elsewhere", 3);
        Check.same("count of answers there", m.disk.load(DATA + 0x1002, 2), 3);
        Check.same("the answer there is at place 2", m.disk.load(DATA + 0x1000 + 24, 4), 1);
        Check.same("count of answers where they were", m.answerCount(), 2);
    }

    /** Heads 0 .. 8 read sectors 0 .. 8 over the offers, and head 9 flushes: so the working feeds itself. */
    private static Machine feeder() {
        Machine m = new Machine(9, 16);
        for (int k = 0; k < 9; k++) {
            m.head(HEADS + 16L * k, READ, k);
            m.block(k, HEADS + 16L * k, 16, NEXT, 15);
        }
        m.head(HEADS + 16L * 9, FLUSH, 0);
        m.block(9, HEADS + 16L * 9, 16, NEXT, 14);
        m.block(14, RESULT, 1, OPEN, 0);
        m.block(15, m.offers, 513, OPEN, 0);
        return m;
    }

    /** A sector that becomes the offers: up to this count, first this number and last that one, else 9. */
    private static void feed(Machine m, int sector, int count, int first, int last) {
        m.disk.setDisk(512 * sector + 2, count);
        for (int slot = 0; slot < 16; slot++) {
            m.disk.setDisk(512 * sector + 4 + 2 * slot, slot == 0 ? first : slot == 15 ? last : 9);
        }
    }

    /** "or 64 requests were answered in this working, that is all" */
    private static void sixtyFourAWorking() {
        int[] offers = {49, 63, 64, 65, 66, 80, 127, 128, 129, 145};
        for (int n : offers) {
            Machine m = feeder();
            for (int k = 0; k < 9; k++) {
                feed(m, k, Math.min(16 * (k + 1) + 1, n), k + 1, 9);
            }
            m.offerAndKick(0);
            for (int working = 1; working <= 3; working++) {
                int due = Math.min(n, 64 * working);
                m.expectAnswered(n + " offers, working " + working, due);
                Check.same("count of answers", m.answerCount(), due);
                m.kick();
            }
        }
    }

    /** The marks are read once more behind the sixty-fourth answer. */
    private static void marksBehindTheLimit() {
        Machine m = feeder();
        for (int k = 0; k < 5; k++) {
            feed(m, k, 16 * (k + 1) + 1, k + 1, k == 3 ? 13 : 9);
        }
        m.head(HEADS + 400, READ, 99);
        m.block(13, HEADS + 400, 16, NEXT, 12);
        m.block(12, DATA, 512, NEXT | OPEN, 11);
        m.block(11, m.offers, 1, OPEN, 0);
        m.offerAndKick(0);
        Check.same("answered", m.disk.answered(), 64);
        Check.same("the sixty-fourth made the marks quiet", m.disk.read(96), 0);
    }

    /** The limit comes before the look at how far the count is ahead. */
    private static void limitBeforeBreaking() {
        Machine m = feeder();
        for (int k = 0; k < 4; k++) {
            feed(m, k, 16 * (k + 1) + 1, k + 1, k == 3 ? 4 : 9);
        }
        feed(m, 4, 200, 9, 9);
        m.offerAndKick(0);
        m.expectAnswered("far ahead behind the sixty-fourth", 64);
        m.kick();
        Check.same("broken by the next working", m.disk.read(112), 79);
        Check.same("causes", m.disk.read(96), 3);
        Check.same("answered", m.disk.answered(), 64);
    }

    /** "Bytes are read or written one behind the other, then the result, the answer, the count." */
    private static void orderOfWrites() {
        Machine m = new Machine(1, 4);
        for (int k = 0; k < 128; k++) {
            m.disk.setDisk(k, 0xEE);
        }
        m.head(HEADS, READ, 0);
        m.block(0, HEADS, 16, NEXT, 1);
        m.block(1, m.answers, 512, NEXT | OPEN, 2);
        m.block(2, m.answers + 100, 1, OPEN, 0);
        m.offerAndKick(0);
        Check.same("marks are data", m.disk.load(m.answers, 2), 0xEEEE);
        Check.same("count over data", m.answerCount(), 1);
        Check.same("number over data", m.answerNumber(0), 0);
        Check.same("length over data", m.answerLength(0), 513);
        Check.same("behind them data", m.disk.load(m.answers + 12, 4), 0xEEEEEEEEL);
        Check.same("result over data", m.disk.load(m.answers + 99, 4), 0xEEEE00EEL);
    }

    private static void resultUnderTheAnswer() {
        for (int offset = 2; offset < 12; offset++) {
            Machine m = new Machine(1, 4);
            m.head(HEADS, 99, 0);
            m.block(0, HEADS, 16, NEXT, 1);
            m.block(1, m.answers + offset, 1, OPEN, 0);
            m.offerAndKick(0);
            Check.same("count over the result at " + offset, m.answerCount(), 1);
            Check.same("number over the result at " + offset, m.answerNumber(0), 0);
            Check.same("length over the result at " + offset, m.answerLength(0), 1);
        }
        // The next place's answer is not there yet: the result stands.
        Machine m = new Machine(1, 4);
        m.head(HEADS, 99, 0);
        m.block(0, HEADS, 16, NEXT, 1);
        m.block(1, m.answers + 12, 1, OPEN, 0);
        m.offerAndKick(0);
        Check.same("result behind the answer", m.answerNumber(1), 2);
    }

    private static void blocksOverOneAnother() {
        Machine m = new Machine(1, 4);
        m.disk.setDisk(127, 1);
        m.disk.setDisk(128, 2);
        m.disk.setDisk(255, 3);
        m.disk.setDisk(256, 4);
        m.disk.setDisk(383, 5);
        m.disk.setDisk(384, 6);
        m.head(HEADS, READ, 0);
        m.block(0, HEADS, 16, NEXT, 1);
        m.block(1, DATA, 256, NEXT | OPEN, 2);
        m.block(2, DATA + 128, 257, OPEN, 0);
        m.offerAndKick(0);
        Check.same("the earlier block", m.disk.load(DATA + 127, 1), 1);
        Check.same("the later block stands", m.disk.load(DATA + 128, 1), 4);
        Check.same("up to the end of the earlier", m.disk.load(DATA + 255, 1), 5);
        // The same with the later block before the earlier one in memory.
        m.block(1, DATA + 128, 256, NEXT | OPEN, 2);
        m.block(2, DATA, 257, OPEN, 0);
        m.offerAndKick(0);
        Check.same("the later block from its start", m.disk.load(DATA, 1), 4);
        Check.same("the later block where both are", m.disk.load(DATA + 128, 1), 6);
        Check.same("the result where both are", m.disk.load(DATA + 256, 1), 0);
        Check.same("the earlier block behind it", m.disk.load(DATA + 383, 1), 3);
        nameOverItself();
    }

    /** A name whose later blocks lie over its earlier ones. */
    private static void nameOverItself() {
        Machine m = new Machine(1, 4);
        m.head(HEADS, Machine.NAME, 0);
        m.block(0, HEADS, 16, NEXT, 1);
        m.block(1, DATA, 3, NEXT | OPEN, 2);
        m.block(2, DATA + 1, 3, OPEN, 0);
        m.offerAndKick(0);
        Check.same("later bytes stand", m.disk.load(DATA, 8), 98 | 99 << 8 | 107 << 16);
        Check.same("all of them count", m.answerLength(0), 6);
    }

    /** A request that reads over its own blocks and head is done as it stood when it was taken. */
    private static void blocksOverTheTable() {
        Machine m = new Machine(2, 4);
        for (int k = 0; k < 64; k++) {
            m.disk.setDisk(k, 0xFF);
            m.disk.setDisk(512 + k, 0xFF);
        }
        m.head(HEADS, READ, 0);
        m.block(0, HEADS, 16, NEXT, 1);
        m.block(1, m.blocks, 512, NEXT | OPEN, 2);
        m.block(2, HEADS, 512, NEXT | OPEN, 3);
        m.block(3, RESULT, 1, OPEN, 0);
        m.disk.store(RESULT, 1, 99);
        m.offerAndKick(0);
        m.expectAnswered("over its own blocks", 1);
        Check.same("table", m.disk.load(m.blocks + 40, 8), -1);
        Check.same("head", m.disk.load(HEADS, 8), -1);
        Check.same("result", m.result(), 0);
        Check.same("length", m.answerLength(0), 1025);
        m.offerAndKick(0);
        Check.same("the next one sees the new table", m.disk.read(112), 79);
    }

    /** The number of an answer is the one that was taken, also if data lie over it since. */
    private static void dataOverTheOffers() {
        Machine m = new Machine(1, 4);
        m.disk.setDisk(2, 1);
        m.disk.setDisk(4, 3);
        m.head(HEADS, READ, 0);
        m.block(2, HEADS, 16, NEXT, 1);
        m.block(1, m.offers, 513, OPEN, 0);
        m.offerAndKick(2);
        m.expectAnswered("over the offers", 1);
        Check.same("number", m.answerNumber(0), 2);
        Check.same("offer", m.disk.load(m.offers + 4, 2), 3);
    }
}

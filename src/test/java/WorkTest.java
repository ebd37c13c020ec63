/** Promises 5 and 9: when the device works, in which order, and how far. */
public final class WorkTest {
    private static final int NEXT = Machine.NEXT;
    private static final int OPEN = Machine.OPEN;
    private static final long HEADS = Machine.HEADS;
    private static final long RESULT = Machine.RESULT;

    public static void main(String[] args) {
        onlyByWordZero();
        onlyInTheRightState();
        onlyWhenReady();
        ringGoesRound();
        allOffersOfOneWorking();
        countSurvivesNotReady();
        sixtyFourAWorking();
        orderOfWrites();
        blocksOverTheTable();
        Check.end();
    }

    private static void onlyByWordZero() {
        int[] words = {1, -1, 256, 65536, Integer.MIN_VALUE};
        for (int w : words) {
            Machine m = new Machine(1, 4);
            m.two(4, 0);
            m.offer(0);
            m.disk.write(80, w);
            m.expectAnswered("word " + w, 0);
            m.kick();
            m.expectAnswered("then 0", 1);
        }
    }

    private static void onlyInTheRightState() {
        for (int s = 1; s < 256; s++) {
            Machine m = new Machine(1, 4);
            m.two(4, 0);
            m.offer(0);
            m.disk.write(112, s);
            m.kick();
            boolean works = (s & 4) != 0 && (s & 64) == 0;
            Check.same("answered in state " + s, m.disk.answered(), works ? 1 : 0);
            Check.same("state " + s, m.disk.read(112), s);
            Check.same("line in state " + s, m.disk.line(), works);
        }
    }

    private static void onlyWhenReady() {
        Machine m = new Machine(1, 4);
        m.two(4, 0);
        m.offer(0);
        m.disk.write(68, 0);
        m.kick();
        m.expectAnswered("not ready", 0);
        m.disk.write(68, 1);
        m.kick();
        m.expectAnswered("ready", 1);
    }

    private static void ringGoesRound() {
        for (int size = 2; size <= 16; size *= 2) {
            Machine m = new Machine(1, size);
            m.two(4, 0);
            for (int k = 0; k < 40; k++) {
                // Another number in each answer, so that the place of each can be told.
                int first = k % 3 == 0 && size > 2 ? 2 : 0;
                m.block(first, HEADS, 16, NEXT, 1);
                m.disk.store(RESULT, 1, 99);
                m.disk.store(m.answers + 4 + 8L * (k % size), 8, -1);
                m.offerAndKick(first);
                Check.same("number of " + k, m.answerNumber(k % size), first);
                Check.same("length of " + k, m.answerLength(k % size), 1);
                Check.same("count of " + k, m.answerCount(), k + 1);
                Check.same("answered at " + k, m.disk.answered(), k + 1);
                Check.same("result of " + k, m.result(), 0);
            }
            Check.same("marks of the answers are not touched", m.disk.load(m.answers, 2), 0);
        }
    }

    private static void allOffersOfOneWorking() {
        Machine m = new Machine(2, 16);
        for (int k = 0; k < 7; k++) {
            m.head(HEADS + 32L * k, k == 3 ? 99 : 4, 0);
            m.block(2 * k, HEADS + 32L * k, 16, NEXT, 2 * k + 1);
            m.block(2 * k + 1, RESULT + k, 1, OPEN, 0);
            m.disk.store(RESULT + k, 1, 77);
        }
        for (int k = 6; k >= 0; k--) {
            m.offer(2 * k);
        }
        m.kick();
        m.expectAnswered("seven", 7);
        Check.same("count", m.answerCount(), 7);
        for (int k = 0; k < 7; k++) {
            Check.same("number " + k, m.answerNumber(k), 2 * (6 - k));
            Check.same("result " + k, m.disk.load(RESULT + k, 1), k == 3 ? 2 : 0);
        }
        // As many as the size at once are not too many.
        for (int k = 0; k < 16; k++) {
            m.offer(0);
        }
        m.kick();
        m.expectAnswered("sixteen more", 23);
    }

    private static void countSurvivesNotReady() {
        Machine m = new Machine(1, 4);
        m.two(4, 0);
        m.offerAndKick(0);
        m.disk.write(68, 0);
        m.disk.write(68, 1);
        m.kick();
        m.expectAnswered("nothing anew", 1);
        m.offerAndKick(0);
        m.expectAnswered("the second", 2);
        Check.same("its place", m.answerLength(1), 1);
    }

    /**
     * Requests that read sectors over the offers keep the device going: heads 0 .. 5 read sector
     * 0 .. 5 there, head 6 does a flush. Sector k offers sixteen more, of which the first is head k + 1.
     */
    private static void sixtyFourAWorking() {
        Machine m = new Machine(8, 16);
        QueueDisk x = m.disk;
        for (int k = 0; k < 6; k++) {
            m.head(HEADS + 16L * k, 0, k);
            m.block(k, HEADS + 16L * k, 16, NEXT, 15);
            int count = 16 * (k + 1) + 1;
            x.setDisk(512 * k, k == 3 ? 1 : 0);
            x.setDisk(512 * k + 2, count);
            for (int slot = 0; slot < 16; slot++) {
                x.setDisk(512 * k + 4 + 2 * slot, slot == 0 ? k + 1 : 6);
            }
        }
        m.head(HEADS + 16L * 6, 4, 0);
        m.block(6, HEADS + 16L * 6, 16, NEXT, 14);
        m.block(14, RESULT, 1, OPEN, 0);
        m.block(15, m.offers, 513, OPEN, 0);
        m.offer(0);
        m.kick();
        Check.same("answered", x.answered(), 64);
        Check.same("state", x.read(112), 15);
        Check.same("count of answers", m.answerCount(), 64);
        Check.same("the marks read last were quiet", x.read(96), 0);
        // The limit comes before the look at how far the count is ahead.
        x.store(m.offers, 2, 0);
        m.kick();
        Check.same("answered by the next working", x.answered(), 97);
        Check.same("causes", x.read(96), 1);
        limitBeforeBreaking();
    }

    private static void limitBeforeBreaking() {
        Machine m = new Machine(8, 16);
        QueueDisk x = m.disk;
        for (int k = 0; k < 5; k++) {
            m.head(HEADS + 16L * k, 0, k);
            m.block(k, HEADS + 16L * k, 16, NEXT, 15);
            x.setDisk(512 * k + 2, k == 4 ? 200 : 16 * (k + 1) + 1);
            for (int slot = 0; slot < 16; slot++) {
                x.setDisk(512 * k + 4 + 2 * slot, slot == 0 ? k + 1 : k == 3 && slot == 15 ? 4 : 6);
            }
        }
        m.head(HEADS + 16L * 6, 4, 0);
        m.block(6, HEADS + 16L * 6, 16, NEXT, 14);
        m.block(14, RESULT, 1, OPEN, 0);
        m.block(15, m.offers, 513, OPEN, 0);
        m.offer(0);
        m.kick();
        m.expectAnswered("far ahead after 64", 64);
        m.kick();
        Check.same("broken by the next working", x.read(112), 79);
        Check.same("causes", x.read(96), 3);
        Check.same("answered", x.answered(), 64);
    }

    /** Data, then the result, then the answer, then the count: the later one stands. */
    private static void orderOfWrites() {
        Machine m = new Machine(1, 4);
        for (int k = 0; k < 512; k++) {
            m.disk.setDisk(k, 0xEE);
        }
        m.head(HEADS, 0, 0);
        m.block(0, HEADS, 16, NEXT, 1);
        m.block(1, m.answers, 512, NEXT | OPEN, 2);
        m.block(2, m.answers + 100, 1, OPEN, 0);
        m.offerAndKick(0);
        Check.same("marks are data", m.disk.load(m.answers, 2), 0xEEEE);
        Check.same("count over data", m.answerCount(), 1);
        Check.same("number over data", m.answerNumber(0), 0);
        Check.same("length over data", m.answerLength(0), 513);
        Check.same("behind them data", m.disk.load(m.answers + 12, 4), 0xEEEEEEEEL);
        Check.same("result over data", m.disk.load(m.answers + 99, 4), 0xEEEE00EEL);
        resultUnderTheAnswer(2);
        resultUnderTheAnswer(4);
        resultUnderTheAnswer(8);
        twoBlocksOverOneAnother();
    }

    private static void resultUnderTheAnswer(int offset) {
        Machine m = new Machine(1, 4);
        m.head(HEADS, 99, 0);
        m.block(0, HEADS, 16, NEXT, 1);
        m.block(1, m.answers + offset, 1, OPEN, 0);
        m.offerAndKick(0);
        Check.same("count", m.answerCount(), 1);
        Check.same("number", m.answerNumber(0), 0);
        Check.same("length", m.answerLength(0), 1);
    }

    private static void twoBlocksOverOneAnother() {
        Machine m = new Machine(1, 4);
        for (int k = 0; k < 512; k++) {
            m.disk.setDisk(k, k < 256 ? 1 : 2);
        }
        m.head(HEADS, 0, 0);
        m.block(0, HEADS, 16, NEXT, 1);
        m.block(1, Machine.DATA, 256, NEXT | OPEN, 2);
        m.block(2, Machine.DATA + 128, 257, OPEN, 0);
        m.offerAndKick(0);
        Check.same("first half", m.disk.load(Machine.DATA + 127, 1), 1);
        Check.same("the later block stands", m.disk.load(Machine.DATA + 128, 1), 2);
    }

    /** A request that reads over its own blocks and head is done as it stood when it was taken. */
    private static void blocksOverTheTable() {
        Machine m = new Machine(2, 4);
        for (int k = 0; k < 1024; k++) {
            m.disk.setDisk(k, 0xFF);
        }
        m.head(HEADS, 0, 0);
        m.block(0, HEADS, 16, NEXT, 1);
        m.block(1, m.blocks, 512, NEXT | OPEN, 2);
        m.block(2, HEADS, 512, NEXT | OPEN, 3);
        m.block(3, RESULT, 1, OPEN, 0);
        m.disk.store(RESULT, 1, 99);
        m.offerAndKick(0);
        m.expectAnswered("over its own blocks", 1);
        Check.same("table", m.disk.load(m.blocks + 40, 8), -1);
        Check.same("head", m.disk.load(HEADS, 8), -1);
        Check.same("result", m.result(), 0);
        Check.same("length", m.answerLength(0), 1025);
        m.offerAndKick(0);
        Check.same("the next one sees the new table", m.disk.read(112), 79);
    }
}

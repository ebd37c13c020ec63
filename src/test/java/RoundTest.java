/**
 * "Counts go round at 65536." In the 512 calls that are promised no count can come so far (64 requests a
 * working), so that this test alone goes on behind them; the class keeps the sentence there, too.
 */
public final class RoundTest {
    private static final int SIZE = 16;

    public static void main(String[] args) {
        Check.watch();
        QueueDisk x = new QueueDisk(1);
        setUp(x);
        for (int k = 1; k <= 65536 + 40; k++) {
            x.store(Machine.OFFERS + 2, 2, k);
            x.write(80, 0);
            if (k % 4096 > 4090 || k % 4096 < 40) {
                Check.same("answered at " + k, x.answered(), k);
                Check.same("count of answers at " + k, x.load(Machine.ANSWERS + 2, 2), k % 65536);
                Check.same("state at " + k, x.read(112), 15);
            }
        }
        overTheEdgeInOneWorking();
        tooFarOverTheEdge();
        Check.end();
    }

    private static void setUp(QueueDisk x) {
        x.write(56, SIZE);
        x.write(128, (int) Machine.BLOCKS);
        x.write(144, (int) Machine.OFFERS);
        x.write(160, (int) Machine.ANSWERS);
        x.write(68, 1);
        x.write(112, 15);
        x.store(Machine.HEADS, 4, Machine.FLUSH);
        x.store(Machine.BLOCKS, 8, Machine.HEADS);
        x.store(Machine.BLOCKS + 8, 8, 16 | 1L << 32 | 1L << 48);
        x.store(Machine.BLOCKS + 16, 8, Machine.RESULT);
        x.store(Machine.BLOCKS + 24, 8, 1 | 2L << 32);
    }

    private static QueueDisk shortOfTheEdge() {
        QueueDisk x = new QueueDisk(1);
        setUp(x);
        for (int k = SIZE; k < 65536; k += SIZE) {
            x.store(Machine.OFFERS + 2, 2, k);
            x.write(80, 0);
        }
        Check.same("answered short of the edge", x.answered(), 65536 - SIZE);
        x.store(Machine.OFFERS + 2, 2, 65536 - 4);
        x.write(80, 0);
        x.write(100, -1);
        return x;
    }

    private static void overTheEdgeInOneWorking() {
        QueueDisk x = shortOfTheEdge();
        x.store(Machine.OFFERS + 2, 2, SIZE - 4);
        x.write(80, 0);
        Check.same("answered over the edge", x.answered(), 65536 - 4 + SIZE);
        Check.same("count over the edge", x.load(Machine.ANSWERS + 2, 2), SIZE - 4);
        Check.same("state over the edge", x.read(112), 15);
    }

    private static void tooFarOverTheEdge() {
        QueueDisk x = shortOfTheEdge();
        x.store(Machine.OFFERS + 2, 2, SIZE - 3);
        x.write(80, 0);
        Check.same("answered too far over the edge", x.answered(), 65536 - 4);
        Check.same("state too far over the edge", x.read(112), 79);
        Check.same("causes too far over the edge", x.read(96), 2);
    }
}

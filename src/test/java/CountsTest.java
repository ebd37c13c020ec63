/** Promises 9 and 10: what counts as answered, and what as a sector written. */
public final class CountsTest {
    private static final int READ = Machine.READ;
    private static final int WRITE = Machine.WRITE;

    public static void main(String[] args) {
        everyAnswerCounts();
        brokenIsNotAnswered();
        everyWrittenSectorCounts();
        onlyWritingsCount();
        setDiskDoesNotCount();
        inAll();
        severalInOneWorking();
        Check.end();
    }

    /** "How many requests were answered in all": also wrong ones, and those of no known kind. */
    private static void everyAnswerCounts() {
        Machine m = new Machine(1, 4);
        int[][] kindsSectorsResults = {{4, 0, 0}, {READ, 9, 1}, {77, 0, 2}, {READ, 0, 0}, {8, 0, 0}, {WRITE, 0, 0}};
        int due = 0;
        for (int[] row : kindsSectorsResults) {
            m.three(row[0], row[1], 512, row[0] != WRITE);
            m.offer(0);
            Check.same("an offer is no answer", m.disk.answered(), due);
            m.kick();
            due++;
            Check.same("result of kind " + row[0], m.result(), row[2]);
            Check.same("answered after kind " + row[0], m.disk.answered(), due);
            m.kick();
            Check.same("nothing more was offered", m.disk.answered(), due);
        }
    }

    private static void brokenIsNotAnswered() {
        Machine m = new Machine(1, 4);
        m.three(WRITE, 0, 512, false);
        m.offer(0);
        m.offer(0);
        m.offerAndKick(9);
        Check.same("two before the break", m.disk.answered(), 2);
        Check.same("and two sectors", m.disk.changed(), 2);
        m.kick();
        Check.same("none behind it", m.disk.answered(), 2);
    }

    /** "How many sectors were written in all": each time, whatever stood there. */
    private static void everyWrittenSectorCounts() {
        Machine m = new Machine(70, 4);
        int[] sectors = {1, 2, 3, 1, 64, 63, 1};
        int due = 0;
        for (int n : sectors) {
            m.three(WRITE, 0, 512 * n, false);
            m.offerAndKick(0);
            due += n;
            Check.same(n + " sectors more", m.disk.changed(), due);
        }
        m.three(WRITE, 0, 0, false);
        m.offerAndKick(0);
        Check.same("no sectors more", m.disk.changed(), due);
        Check.same("but an answer", m.disk.answered(), sectors.length + 1);
    }

    private static void onlyWritingsCount() {
        int[] kinds = {READ, 4, 8, 2, 3, -1};
        for (int kind : kinds) {
            for (int open = 0; open < 2; open++) {
                Machine m = new Machine(4, 4);
                m.three(kind, 0, 1024, open == 1);
                m.offerAndKick(0);
                m.expectAnswered("kind " + kind, 1);
                Check.same("changed by kind " + kind, m.disk.changed(), 0);
            }
        }
        int[][] wrong = {{0, 511}, {0, 513}, {4, 512}, {3, 1024}, {0, 2560}, {0, 65 * 512}};
        for (int[] sectorAndLength : wrong) {
            Machine m = new Machine(4, 4);
            m.three(WRITE, sectorAndLength[0], sectorAndLength[1], false);
            m.offerAndKick(0);
            Check.same("wrong", m.result(), 1);
            Check.same("changed by a wrong writing", m.disk.changed(), 0);
        }
    }

    private static void setDiskDoesNotCount() {
        Device x = new Device(1);
        for (int p = 0; p < 500; p++) {
            x.setDisk(p, p);
        }
        Check.same("changed by hand", x.changed(), 0);
        Check.same("answered by hand", x.answered(), 0);
    }

    /** "in all": also over resets. */
    private static void inAll() {
        Machine m = new Machine(4, 4);
        m.three(WRITE, 1, 1024, false);
        m.offerAndKick(0);
        for (int k = 2; k <= 4; k++) {
            m.disk.write(112, 0);
            Check.same("answered after a reset", m.disk.answered(), k - 1);
            Check.same("changed after a reset", m.disk.changed(), 2 * (k - 1));
            m.setUp();
            m.kick();
            Check.same("answered in all", m.disk.answered(), k);
            Check.same("changed in all", m.disk.changed(), 2 * k);
        }
    }

    private static void severalInOneWorking() {
        Machine m = new Machine(4, 16);
        m.three(WRITE, 0, 1536, false);
        for (int k = 0; k < 16; k++) {
            m.offer(0);
        }
        m.kick();
        m.expectAnswered("sixteen at once", 16);
        Check.same("changed", m.disk.changed(), 48);
    }
}

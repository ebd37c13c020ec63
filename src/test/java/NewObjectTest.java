/** Promise 1: so many sectors, 2048 where the number is not one of 1 .. 2048; all is 0 at first. */
public final class NewObjectTest {
    public static void main(String[] args) {
        sectors(1, 1);
        sectors(2, 2);
        sectors(777, 777);
        sectors(2047, 2047);
        sectors(2048, 2048);
        sectors(2049, 2048);
        sectors(0, 2048);
        sectors(-1, 2048);
        sectors(Integer.MAX_VALUE, 2048);
        sectors(Integer.MIN_VALUE, 2048);
        allIsZeroAtFirst();
        Check.end();
    }

    private static void sectors(int said, int due) {
        QueueDisk x = new QueueDisk(said);
        Check.same("sectors of " + said, x.read(256), due);
        Check.same("last byte of " + said, x.disk(due * 512 - 1), 0);
        Check.refused("byte behind the disk of " + said, Check.BOUNDS, () -> x.disk(due * 512));
    }

    private static void allIsZeroAtFirst() {
        QueueDisk x = new QueueDisk(2);
        long sum = 0;
        for (long a = Machine.START; a < Machine.END; a += 8) {
            sum |= x.load(a, 8);
        }
        Check.same("memory at first", sum, 0);
        int bytes = 0;
        for (int p = 0; p < 1024; p++) {
            bytes |= x.disk(p);
        }
        Check.same("disk at first", bytes, 0);
        Check.same("line at first", x.line(), false);
        Check.same("answered at first", x.answered(), 0);
        Check.same("changed at first", x.changed(), 0);
        Check.same("state at first", x.read(112), 0);
        Check.same("causes at first", x.read(96), 0);
        Check.same("ready at first", x.read(68), 0);
    }
}

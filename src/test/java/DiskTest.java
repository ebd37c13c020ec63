/** Promises 7 and 8: the bytes of the disk. */
public final class DiskTest {
    public static void main(String[] args) {
        QueueDisk x = new QueueDisk(3);
        keeps(x, 0, 1, 1);
        keeps(x, 1, 255, 255);
        keeps(x, 511, 256, 0);
        keeps(x, 512, -1, 255);
        keeps(x, 700, -128, 128);
        keeps(x, 1535, 0x12345678, 0x78);
        keeps(x, 3, Integer.MIN_VALUE, 0);
        Check.same("a neighbour", x.disk(2), 0);
        Check.same("the first is still there", x.disk(0), 1);
        int[] outside = {-1, 1536, 1537, Integer.MAX_VALUE, Integer.MIN_VALUE, 512 * 2048};
        for (int p : outside) {
            Check.refused("disk " + p, Check.BOUNDS, () -> x.disk(p));
            Check.refused("setDisk " + p, Check.BOUNDS, () -> x.setDisk(p, 1));
        }
        Check.same("no sector counts as written", x.changed(), 0);
        x.write(112, 0);
        Check.same("the disk outlives a reset", x.disk(1535), 0x78);
        QueueDisk most = new QueueDisk(2048);
        keeps(most, 1048575, 77, 77);
        Check.refused("behind the largest", Check.BOUNDS, () -> most.setDisk(1048576, 1));
        Check.end();
    }

    private static void keeps(QueueDisk x, int place, int v, int due) {
        x.setDisk(place, v);
        Check.same("disk " + place + " after " + v, x.disk(place), due);
    }
}

/** Promises 7 and 8: the bytes of the disk. */
public final class DiskTest {
    public static void main(String[] args) {
        lowestEightBits();
        everyByteIsItsOwn();
        noSuchByte();
        largestDisk();
        resetLeavesTheDisk();
        Check.end();
    }

    /** "A byte of the disk becomes the lowest eight bits of v", and reads "0 .. 255". */
    private static void lowestEightBits() {
        Device x = new Device(1);
        int[] words = {0, 1, 127, 128, 255, 256, 257, -1, -128, -256, 0x12345678, 0xFFFFFF80,
            Integer.MIN_VALUE, Integer.MAX_VALUE};
        for (int w : words) {
            x.setDisk(100, w);
            Check.same("disk after " + w, x.disk(100), w & 255);
        }
        Check.same("the one before", x.disk(99), 0);
        Check.same("the one behind", x.disk(101), 0);
    }

    private static void everyByteIsItsOwn() {
        Device x = new Device(256);
        for (int k = 0; k < 256; k++) {
            x.setDisk(512 * k + k, k);
        }
        for (int k = 0; k < 256; k++) {
            Check.same("byte in sector " + k, x.disk(512 * k + k), k);
        }
    }

    /** "IndexOutOfBoundsException: there is none such." */
    private static void noSuchByte() {
        for (int sectors = 1; sectors <= 3; sectors++) {
            Device x = new Device(sectors);
            int end = 512 * sectors;
            x.setDisk(0, 11);
            x.setDisk(end - 1, 12);
            int[] outside = {-1, -2, -512, end, end + 1, end + 512, 512 * 2048 - 1, 512 * 2048,
                Integer.MAX_VALUE, Integer.MIN_VALUE};
            for (int p : outside) {
                Check.refused("disk " + p, Check.BOUNDS, () -> x.disk(p));
                Check.refused("setDisk " + p, Check.BOUNDS, () -> x.setDisk(p, 1));
            }
            Check.same("first byte", x.disk(0), 11);
            Check.same("last byte", x.disk(end - 1), 12);
        }
    }

    private static void largestDisk() {
        Device x = new Device(2048);
        x.setDisk(1048575, 77);
        Check.same("last byte", x.disk(1048575), 77);
        Check.refused("disk behind it", Check.BOUNDS, () -> x.disk(1048576));
        Check.refused("setDisk behind it", Check.BOUNDS, () -> x.setDisk(1048576, 1));
    }

    private static void resetLeavesTheDisk() {
        Device x = new Device(1);
        x.setDisk(511, 9);
        x.write(112, 0);
        Check.same("after a reset", x.disk(511), 9);
    }
}

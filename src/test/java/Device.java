/** A QueueDisk that is asked for no more than the document promises: 512 calls of one object. */
final class Device {
    private static final int MOST_CALLS = 512;

    private final QueueDisk disk;
    private int calls = 0;

    Device(int sectors) {
        Check.watch();
        disk = new QueueDisk(sectors);
    }

    int callsLeft() {
        return MOST_CALLS - calls;
    }

    private QueueDisk next() {
        calls++;
        if (calls == MOST_CALLS + 1) {
            Check.same("a test's calls of one object", calls, MOST_CALLS);
        }
        return disk;
    }

    long load(long address, int size) {
        return next().load(address, size);
    }

    void store(long address, int size, long v) {
        next().store(address, size, v);
    }

    int read(int offset) {
        return next().read(offset);
    }

    void write(int offset, int v) {
        next().write(offset, v);
    }

    boolean line() {
        return next().line();
    }

    int disk(int place) {
        return next().disk(place);
    }

    void setDisk(int place, int v) {
        next().setDisk(place, v);
    }

    int answered() {
        return next().answered();
    }

    int changed() {
        return next().changed();
    }
}

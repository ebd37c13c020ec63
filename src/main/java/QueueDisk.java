public final class QueueDisk {
    private static final long MEMORY_START = 2147483648L;
    private static final int MEMORY_SIZE = 65536;
    private static final int SECTOR_SIZE = 512;
    private static final int MOST_SECTORS = 2048;
    private static final int MOST_SECTORS_A_REQUEST = 64;
    private static final int MOST_ANSWERS_A_WORKING = 64;
    private static final int COUNT_MASK = 65535;

    private static final int LAST_REGISTER = 508;
    private static final int IDENTITY = 0;
    private static final int VERSION = 4;
    private static final int DEVICE = 8;
    private static final int OFFERED = 16;
    private static final int OFFERED_CHOICE = 20;
    private static final int QUEUE_CHOICE = 48;
    private static final int MOST_SIZE = 52;
    private static final int SIZE = 56;
    private static final int READY = 68;
    private static final int NOTIFY = 80;
    private static final int CAUSES = 96;
    private static final int CAUSES_SEEN = 100;
    private static final int STATE = 112;
    private static final int BLOCKS_LOWER = 128;
    private static final int BLOCKS_UPPER = 132;
    private static final int OFFERS_LOWER = 144;
    private static final int OFFERS_UPPER = 148;
    private static final int ANSWERS_LOWER = 160;
    private static final int ANSWERS_UPPER = 164;
    private static final int SECTOR_COUNT = 256;

    private static final int STATE_RUNS = 4;
    private static final int STATE_BROKEN = 64;
    private static final int CAUSE_ANSWERED = 1;
    private static final int CAUSE_BROKEN = 2;
    private static final int OFFERS_QUIET = 1;

    private static final int KIND_READ = 0;
    private static final int KIND_WRITE = 1;
    private static final int KIND_FLUSH = 4;
    private static final int KIND_NAME = 8;
    private static final int RESULT_DONE = 0;
    private static final int RESULT_WRONG = 1;
    private static final int RESULT_UNKNOWN = 2;

    private final int sectorCount;
    private final Bytes memory;
    private final Bytes diskBytes;
    private final Queue queue;
    private final Request request;
    private int offeredChoice;
    private int queueChoice;
    private int causes;
    private int state;
    private int answeredInAll;
    private int changedInAll;

    public QueueDisk(int sectors) {
        sectorCount = sectors >= 1 && sectors <= MOST_SECTORS ? sectors : MOST_SECTORS;
        memory = new Bytes(MEMORY_SIZE);
        diskBytes = new Bytes(sectorCount * SECTOR_SIZE);
        queue = new Queue();
        request = new Request();
    }

    public long load(long address, int size) throws IllegalArgumentException, IndexOutOfBoundsException {
        refuseOutsideMemory(address, size);
        return memory.number(address - MEMORY_START, size);
    }

    public void store(long address, int size, long v) throws IllegalArgumentException, IndexOutOfBoundsException {
        refuseOutsideMemory(address, size);
        memory.putNumber(address - MEMORY_START, size, v);
    }

    public int read(int offset) throws IndexOutOfBoundsException {
        refuseNoRegister(offset);
        switch (offset) {
            case IDENTITY:
                return 1953655158;
            case VERSION:
            case DEVICE:
                return 2;
            case OFFERED:
                return offeredWord();
            case MOST_SIZE:
                return queueChoice == 0 ? Queue.MOST : 0;
            case READY:
                return queue.ready && queueChoice == 0 ? 1 : 0;
            case CAUSES:
                return causes;
            case STATE:
                return state;
            case SECTOR_COUNT:
                return sectorCount;
            default:
                return 0;
        }
    }

    public void write(int offset, int v) throws IndexOutOfBoundsException {
        refuseNoRegister(offset);
        switch (offset) {
            case OFFERED_CHOICE:
                offeredChoice = v;
                break;
            case QUEUE_CHOICE:
                queueChoice = v;
                break;
            case NOTIFY:
                if (v == 0) {
                    work();
                }
                break;
            case CAUSES_SEEN:
                causes &= ~v;
                break;
            case STATE:
                changeState(v);
                break;
            default:
                if (queueChoice == 0) {
                    queue.set(offset, v);
                }
        }
    }

    public boolean line() {
        return causes != 0;
    }

    public int disk(int place) throws IndexOutOfBoundsException {
        refuseOutsideDisk(place);
        return diskBytes.at(place);
    }

    public void setDisk(int place, int v) throws IndexOutOfBoundsException {
        refuseOutsideDisk(place);
        diskBytes.put(place, v);
    }

    public int answered() {
        return answeredInAll;
    }

    public int changed() {
        return changedInAll;
    }

    private void refuseOutsideMemory(long address, int size) {
        if (size != 1 && size != 2 && size != 4 && size != 8) {
            throw new IllegalArgumentException("a size is 1, 2, 4 or 8");
        }
        if (!memory.holds(address - MEMORY_START, size)) {
            throw new IndexOutOfBoundsException("not in memory");
        }
    }

    private void refuseNoRegister(int offset) {
        if (offset < 0 || offset > LAST_REGISTER || (offset & 3) != 0) {
            throw new IndexOutOfBoundsException("no register at this offset");
        }
    }

    private void refuseOutsideDisk(int place) {
        if (!diskBytes.holds(place, 1)) {
            throw new IndexOutOfBoundsException("not on the disk");
        }
    }

    private int offeredWord() {
        if (offeredChoice == 0) {
            return 512;
        }
        return offeredChoice == 1 ? 1 : 0;
    }

    private void changeState(int word) {
        if (word == 0) {
            offeredChoice = 0;
            queueChoice = 0;
            causes = 0;
            state = 0;
            queue.forget();
        } else {
            state = (word & 255) | (state & STATE_BROKEN);
        }
    }

    private void work() {
        if ((state & STATE_RUNS) == 0 || (state & STATE_BROKEN) != 0 || !queue.ready) {
            return;
        }
        int done = 0;
        boolean fits = queue.lookAtOffers(memory);
        while (fits && queue.ahead() != 0 && done < MOST_ANSWERS_A_WORKING) {
            fits = queue.ahead() <= queue.size && serve();
            if (fits) {
                done++;
                fits = queue.lookAtOffers(memory);
            }
        }
        if (!fits) {
            state |= STATE_BROKEN;
            causes |= CAUSE_BROKEN;
        }
        if (done > 0 && (queue.offerMarks & OFFERS_QUIET) == 0) {
            causes |= CAUSE_ANSWERED;
        }
    }

    /** Serves the next offered request; false, and nothing done, if the device breaks by it. */
    private boolean serve() {
        long offer = queue.offerPlace();
        if (!memory.holds(offer, 2) || !queue.canAnswer(memory)) {
            return false;
        }
        int number = (int) memory.number(offer, 2);
        // The whole request is looked at before a byte of it is written, for its
        // blocks may lie over the queue itself, and a broken one must leave no trace.
        if (!request.gather(memory, queue, number)) {
            return false;
        }
        int result = perform(request.kind(memory), request.sector(memory));
        memory.put(request.resultPlace(), result);
        queue.answer(memory, number, request.written + 1);
        answeredInAll++;
        return true;
    }

    private int perform(int kind, long sector) {
        switch (kind) {
            case KIND_READ:
                return readSectors(sector);
            case KIND_WRITE:
                return writeSectors(sector);
            case KIND_FLUSH:
                return RESULT_DONE;
            case KIND_NAME:
                request.putName(memory);
                return RESULT_DONE;
            default:
                return RESULT_UNKNOWN;
        }
    }

    private int readSectors(long sector) {
        if (!onDisk(sector, request.openData())) {
            return RESULT_WRONG;
        }
        long start = sector * SECTOR_SIZE;
        for (int k = request.closed; k < request.count; k++) {
            int length = request.openLengthOf(k);
            diskBytes.copyTo(start + request.written, memory, request.placeOf(k), length);
            request.written += length;
        }
        return RESULT_DONE;
    }

    private int writeSectors(long sector) {
        int data = request.closedData();
        if (!onDisk(sector, data)) {
            return RESULT_WRONG;
        }
        long to = sector * SECTOR_SIZE;
        for (int k = 1; k < request.closed; k++) {
            int length = request.lengthOf(k);
            memory.copyTo(request.placeOf(k), diskBytes, to, length);
            to += length;
        }
        changedInAll += data / SECTOR_SIZE;
        return RESULT_DONE;
    }

    private boolean onDisk(long sector, int data) {
        int wanted = data / SECTOR_SIZE;
        if (data % SECTOR_SIZE != 0 || wanted > MOST_SECTORS_A_REQUEST) {
            return false;
        }
        // No data at all are whole sectors, and none of those is off the disk.
        return wanted == 0 || (sector >= 0 && sector <= sectorCount - wanted);
    }

    /** A row of bytes that can be asked for any place without harm. */
    private static final class Bytes {
        private final byte[] row;

        Bytes(int count) {
            row = new byte[count < 0 ? 0 : count];
        }

        boolean holds(long place, long count) {
            return place >= 0 && count >= 0 && count <= row.length && place <= row.length - count;
        }

        int at(long place) {
            return holds(place, 1) ? row[(int) place] & 255 : 0;
        }

        void put(long place, int v) {
            if (holds(place, 1)) {
                row[(int) place] = (byte) v;
            }
        }

        long number(long place, int size) {
            long n = 0;
            for (int k = size - 1; k >= 0; k--) {
                n = (n << 8) | at(place + k);
            }
            return n;
        }

        void putNumber(long place, int size, long v) {
            long rest = v;
            for (int k = 0; k < size; k++) {
                put(place + k, (int) rest);
                rest >>>= 8;
            }
        }

        void copyTo(long place, Bytes other, long otherPlace, int count) {
            if (holds(place, count) && other.holds(otherPlace, count)) {
                System.arraycopy(row, (int) place, other.row, (int) otherPlace, count);
            }
        }
    }

    /** How the queue was set up, and how far the device has come in it. */
    private static final class Queue {
        private static final int MOST = 16;
        private static final long LOWER_HALF = 4294967295L;

        private int size = MOST;
        private boolean ready;
        private long blocks;
        private long offers;
        private long answers;
        private int taken;
        private int told;
        private int offerMarks;
        private int offerCount;

        void forget() {
            size = MOST;
            ready = false;
            blocks = 0;
            offers = 0;
            answers = 0;
            taken = 0;
            told = 0;
        }

        void set(int offset, int v) {
            if (offset == READY) {
                ready = (v & 1) != 0;
            } else if (!ready) {
                setUp(offset, v);
            }
        }

        private void setUp(int offset, int v) {
            switch (offset) {
                case SIZE:
                    if (v == 1 || v == 2 || v == 4 || v == 8 || v == MOST) {
                        size = v;
                    }
                    break;
                case BLOCKS_LOWER:
                    blocks = withLower(blocks, v);
                    break;
                case BLOCKS_UPPER:
                    blocks = withUpper(blocks, v);
                    break;
                case OFFERS_LOWER:
                    offers = withLower(offers, v);
                    break;
                case OFFERS_UPPER:
                    offers = withUpper(offers, v);
                    break;
                case ANSWERS_LOWER:
                    answers = withLower(answers, v);
                    break;
                case ANSWERS_UPPER:
                    answers = withUpper(answers, v);
                    break;
                default:
                    break;
            }
        }

        private static long withLower(long address, int v) {
            return (address & ~LOWER_HALF) | (v & LOWER_HALF);
        }

        private static long withUpper(long address, int v) {
            return ((long) v << 32) | (address & LOWER_HALF);
        }

        boolean lookAtOffers(Bytes memory) {
            long place = offers - MEMORY_START;
            if (!memory.holds(place, 4)) {
                return false;
            }
            offerMarks = (int) memory.number(place, 2);
            offerCount = (int) memory.number(place + 2, 2);
            return true;
        }

        int ahead() {
            return (offerCount - taken) & COUNT_MASK;
        }

        // A size is a power of two, so that a mask is the modulo.
        private int slot(int count) {
            return count & (size - 1);
        }

        long blockPlace(int number) {
            return blocks - MEMORY_START + 16L * number;
        }

        long offerPlace() {
            return offers - MEMORY_START + 4 + 2L * slot(taken);
        }

        private long answerPlace() {
            return answers - MEMORY_START + 4 + 8L * slot(told);
        }

        private long answerCountPlace() {
            return answers - MEMORY_START + 2;
        }

        boolean canAnswer(Bytes memory) {
            return memory.holds(answerPlace(), 8) && memory.holds(answerCountPlace(), 2);
        }

        void answer(Bytes memory, int number, int written) {
            long place = answerPlace();
            memory.putNumber(place, 4, number);
            memory.putNumber(place + 4, 4, written);
            taken = (taken + 1) & COUNT_MASK;
            told = (told + 1) & COUNT_MASK;
            memory.putNumber(answerCountPlace(), 2, told);
        }
    }

    /** The blocks of the request at hand: the closed ones, then the open ones. */
    private static final class Request {
        private static final int MARK_NEXT = 1;
        private static final int MARK_OPEN = 2;
        private static final int MARK_REFUSED = 4;
        private static final int HEAD_SIZE = 16;
        private static final int NAME_SIZE = 20;
        private static final int[] NAME = {98, 108, 111, 99, 107};

        private final long[] places = new long[Queue.MOST];
        private final int[] lengths = new int[Queue.MOST];
        private int count;
        private int closed;
        private int written;

        /** Takes up the blocks from the first one on; false if they are not a request. */
        boolean gather(Bytes memory, Queue queue, int first) {
            count = 0;
            closed = 0;
            written = 0;
            int number = first;
            boolean more = true;
            for (int k = 0; more && k < queue.size; k++) {
                long block = queue.blockPlace(number);
                if (number >= queue.size || !memory.holds(block, 16)) {
                    return false;
                }
                int marks = (int) memory.number(block + 12, 2);
                long place = memory.number(block, 8) - MEMORY_START;
                long length = memory.number(block + 8, 4);
                if (!take(memory, place, length, marks)) {
                    return false;
                }
                more = (marks & MARK_NEXT) != 0;
                number = (int) memory.number(block + 14, 2);
            }
            return !more && endsFit();
        }

        private boolean take(Bytes memory, long place, long length, int marks) {
            boolean open = (marks & MARK_OPEN) != 0;
            if ((marks & MARK_REFUSED) != 0 || (!open && closed < count)) {
                return false;
            }
            if (length != 0 && !memory.holds(place, length)) {
                return false;
            }
            if (count >= places.length || count >= lengths.length) {
                return false;
            }
            places[count] = place;
            lengths[count] = (int) length;
            count++;
            if (!open) {
                closed++;
            }
            return true;
        }

        private boolean endsFit() {
            return closed > 0 && lengthOf(0) >= HEAD_SIZE && closed < count && lengthOf(count - 1) > 0;
        }

        private long placeOf(int k) {
            return k >= 0 && k < places.length ? places[k] : 0;
        }

        private int lengthOf(int k) {
            return k >= 0 && k < lengths.length ? lengths[k] : 0;
        }

        // The last byte of the last block is the result's, and no data.
        private int openLengthOf(int k) {
            return k == count - 1 ? lengthOf(k) - 1 : lengthOf(k);
        }

        int kind(Bytes memory) {
            return (int) memory.number(placeOf(0), 4);
        }

        long sector(Bytes memory) {
            return memory.number(placeOf(0) + 8, 8);
        }

        long resultPlace() {
            return placeOf(count - 1) + lengthOf(count - 1) - 1;
        }

        int closedData() {
            int sum = 0;
            for (int k = 1; k < closed; k++) {
                sum += lengthOf(k);
            }
            return sum;
        }

        int openData() {
            int sum = 0;
            for (int k = closed; k < count; k++) {
                sum += openLengthOf(k);
            }
            return sum;
        }

        void putName(Bytes memory) {
            for (int k = closed; k < count; k++) {
                int length = Math.min(openLengthOf(k), NAME_SIZE - written);
                for (int j = 0; j < length; j++) {
                    memory.put(placeOf(k) + j, nameByte(written));
                    written++;
                }
            }
        }

        private static int nameByte(int k) {
            return k >= 0 && k < NAME.length ? NAME[k] : 0;
        }
    }
}

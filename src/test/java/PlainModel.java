import java.math.BigInteger;
import java.util.ArrayList;
import java.util.HashMap;
import java.util.List;
import java.util.Map;

/** The document once more, as slowly and plainly as it can be told, to set random runs against. */
final class PlainModel {
    private static final class Broken extends Exception {
        private static final long serialVersionUID = 1L;
    }

    private static final class Part {
        BigInteger address;
        long length;
        int marks;
        int next;
    }

    private static final BigInteger START = BigInteger.ONE.shiftLeft(31);
    private static final BigInteger END = START.add(BigInteger.valueOf(65536));

    private final Map<BigInteger, Integer> memory = new HashMap<>();
    private final List<Long> touched = new ArrayList<>();
    private final List<Integer> touchedOnDisk = new ArrayList<>();
    private final int[] sectors;
    private final Map<Integer, Integer> words = new HashMap<>();
    private int size;
    private boolean ready;
    private int causes;
    private int state;
    private int come;
    private int told;
    private int answered;
    private int changed;

    PlainModel(int count) {
        sectors = new int[512 * (count < 1 || count > 2048 ? 2048 : count)];
        reset();
    }

    private void reset() {
        words.clear();
        size = 16;
        ready = false;
        causes = 0;
        state = 0;
        come = 0;
        told = 0;
    }

    private int word(int offset) {
        return words.getOrDefault(offset, 0);
    }

    private static BigInteger unsigned(long v) {
        return new BigInteger(Long.toUnsignedString(v));
    }

    private BigInteger place(int offset) {
        return unsigned(word(offset + 4) * 4294967296L + Integer.toUnsignedLong(word(offset)));
    }

    private static boolean inMemory(BigInteger address) {
        return address.compareTo(START) >= 0 && address.compareTo(END) < 0;
    }

    private static void need(BigInteger from, long count) throws Broken {
        if (count > 0 && !(inMemory(from) && inMemory(from.add(BigInteger.valueOf(count - 1))))) {
            throw new Broken();
        }
    }

    private int memoryByte(BigInteger address) {
        return memory.getOrDefault(address, 0);
    }

    private void setMemoryByte(BigInteger address, int v) {
        memory.put(address, v & 255);
        touched.add(address.longValue());
    }

    private void setDiskByte(int place, int v) {
        sectors[place] = v & 255;
        touchedOnDisk.add(place);
    }

    /** Where memory was written, once for each time, so that a look at some can be a look at the right ones. */
    List<Long> touched() {
        return touched;
    }

    List<Integer> touchedOnDisk() {
        return touchedOnDisk;
    }

    private BigInteger number(BigInteger address, int count) throws Broken {
        need(address, count);
        BigInteger n = BigInteger.ZERO;
        for (int k = 0; k < count; k++) {
            n = n.add(BigInteger.valueOf(memoryByte(address.add(BigInteger.valueOf(k)))).shiftLeft(8 * k));
        }
        return n;
    }

    private void setNumber(BigInteger address, int count, long v) {
        for (int k = 0; k < count; k++) {
            setMemoryByte(address.add(BigInteger.valueOf(k)), (int) (v >>> 8 * k));
        }
    }

    long load(long address, int count) {
        refuse(address, count);
        try {
            return number(unsigned(address), count).longValue();
        } catch (Broken e) {
            throw new IllegalStateException(e);
        }
    }

    void store(long address, int count, long v) {
        refuse(address, count);
        setNumber(unsigned(address), count, v);
    }

    private static void refuse(long address, int count) {
        if (count != 1 && count != 2 && count != 4 && count != 8) {
            throw new IllegalArgumentException();
        }
        for (int k = 0; k < count; k++) {
            if (!inMemory(BigInteger.valueOf(address).add(BigInteger.valueOf(k)))) {
                throw new IndexOutOfBoundsException();
            }
        }
    }

    int disk(int place) {
        if (place < 0 || place >= sectors.length) {
            throw new IndexOutOfBoundsException();
        }
        return sectors[place];
    }

    void setDisk(int place, int v) {
        disk(place);
        setDiskByte(place, v);
    }

    boolean line() {
        return causes != 0;
    }

    int answered() {
        return answered;
    }

    int changed() {
        return changed;
    }

    private static void refuseRegister(int offset) {
        if (offset < 0 || offset > 508 || offset % 4 != 0) {
            throw new IndexOutOfBoundsException();
        }
    }

    int read(int offset) {
        refuseRegister(offset);
        if (offset == 0) return 0x74726976;
        if (offset == 4 || offset == 8) return 2;
        if (offset == 16) return word(20) == 0 ? 512 : word(20) == 1 ? 1 : 0;
        if (offset == 52) return word(48) == 0 ? 16 : 0;
        if (offset == 68) return ready && word(48) == 0 ? 1 : 0;
        if (offset == 96) return causes;
        if (offset == 112) return state;
        if (offset == 256) return sectors.length / 512;
        return 0;
    }

    void write(int offset, int v) {
        refuseRegister(offset);
        boolean ofQueue = offset == 56 || offset == 68 || offset >= 128 && offset <= 164;
        if (ofQueue && (word(48) != 0 || offset != 68 && ready)) {
            return;
        }
        if (offset == 20 || offset == 48 || offset >= 128 && offset <= 164) words.put(offset, v);
        if (offset == 56 && v >= 1 && v <= 16 && Integer.bitCount(v) == 1) size = v;
        if (offset == 68) ready = v % 2 != 0;
        if (offset == 80 && v == 0) work();
        if (offset == 100) causes = causes & ~v;
        if (offset == 112 && v == 0) reset();
        else if (offset == 112) state = v & 255 | state & 64;
    }

    private void work() {
        if ((state & 4) == 0 || (state & 64) != 0 || !ready) {
            return;
        }
        int done = 0;
        int marks = 0;
        try {
            while (true) {
                BigInteger offers = place(144);
                need(offers, 4);
                marks = number(offers, 2).intValue();
                int count = number(offers.add(BigInteger.TWO), 2).intValue();
                if (count == come || done == 64) {
                    break;
                }
                if (Math.floorMod(count - come, 65536) > size) {
                    throw new Broken();
                }
                one(number(offers.add(BigInteger.valueOf(4 + 2 * (come % size))), 2).intValue());
                done++;
            }
        } catch (Broken e) {
            state |= 64;
            causes |= 2;
        }
        if (done > 0 && marks % 2 == 0) {
            causes |= 1;
        }
    }

    private List<Part> parts(int first) throws Broken {
        List<Part> all = new ArrayList<>();
        int k = first;
        while (true) {
            if (k >= size || all.size() == size) throw new Broken();
            BigInteger at = place(128).add(BigInteger.valueOf(16L * k));
            need(at, 16);
            Part p = new Part();
            p.address = number(at, 8);
            p.length = number(at.add(BigInteger.valueOf(8)), 4).longValue();
            p.marks = number(at.add(BigInteger.valueOf(12)), 2).intValue();
            p.next = number(at.add(BigInteger.valueOf(14)), 2).intValue();
            need(p.address, p.length);
            if ((p.marks & 4) != 0) throw new Broken();
            if (!all.isEmpty() && (all.get(all.size() - 1).marks & 2) > (p.marks & 2)) throw new Broken();
            all.add(p);
            if ((p.marks & 1) == 0) break;
            k = p.next;
        }
        Part head = all.get(0);
        Part last = all.get(all.size() - 1);
        if ((head.marks & 2) != 0 || head.length < 16) throw new Broken();
        if ((last.marks & 2) == 0 || last.length == 0) throw new Broken();
        return all;
    }

    private void one(int first) throws Broken {
        List<Part> all = parts(first);
        BigInteger answer = place(160).add(BigInteger.valueOf(4 + 8 * (told % size)));
        need(answer, 8);
        need(place(160).add(BigInteger.TWO), 2);
        List<BigInteger> in = new ArrayList<>();
        List<BigInteger> out = new ArrayList<>();
        for (Part p : all) {
            for (long j = 0; j < p.length; j++) {
                if ((p.marks & 2) != 0) out.add(p.address.add(BigInteger.valueOf(j)));
                else if (p != all.get(0)) in.add(p.address.add(BigInteger.valueOf(j)));
            }
        }
        BigInteger resultAt = out.remove(out.size() - 1);
        long kind = number(all.get(0).address, 4).longValue();
        BigInteger sector = number(all.get(0).address.add(BigInteger.valueOf(8)), 8);
        int written = 1;
        int result = 0;
        if (kind == 0 || kind == 1) {
            List<BigInteger> data = kind == 0 ? out : in;
            if (wrong(sector, data.size())) {
                result = 1;
            } else {
                for (int j = 0; j < data.size(); j++) {
                    int at = sector.intValue() * 512 + j;
                    if (kind == 0) setMemoryByte(data.get(j), sectors[at]);
                    else setDiskByte(at, memoryByte(data.get(j)));
                }
                if (kind == 0) written += data.size();
                else changed += data.size() / 512;
            }
        } else if (kind == 8) {
            for (int j = 0; j < 20 && j < out.size(); j++) {
                setMemoryByte(out.get(j), j < 5 ? "block".charAt(j) : 0);
                written++;
            }
        } else if (kind != 4) {
            result = 2;
        }
        setMemoryByte(resultAt, result);
        setNumber(answer, 4, first);
        setNumber(answer.add(BigInteger.valueOf(4)), 4, written);
        come = (come + 1) % 65536;
        told = (told + 1) % 65536;
        setNumber(place(160).add(BigInteger.TWO), 2, told);
        answered++;
    }

    private boolean wrong(BigInteger sector, int bytes) {
        if (bytes % 512 != 0 || bytes / 512 > 64) return true;
        for (int j = 0; j < bytes / 512; j++) {
            if (sector.add(BigInteger.valueOf(j)).compareTo(BigInteger.valueOf(sectors.length / 512)) >= 0) return true;
        }
        return false;
    }
}

/** Promise 6: "THE LINE is on as long as causes are not 0", and what the causes get by working. */
public final class LineTest {
    private static final int FLUSH = Machine.FLUSH;

    public static void main(String[] args) {
        onAsLongAsCausesAreNotZero();
        offByAReset();
        nothingAnswered();
        quietMark();
        otherMarksOfTheOffers();
        quietLeavesTheCause();
        brokenTurnsOn();
        answeredThenBroken();
        marksOfTheLastReading();
        Check.end();
    }

    private static void onAsLongAsCausesAreNotZero() {
        Machine m = new Machine(1, 4);
        m.two(FLUSH, 0);
        m.offer(0);
        Check.same("before", m.disk.line(), false);
        m.kick();
        Check.same("after", m.disk.line(), true);
        Check.same("asking does not turn it off", m.disk.line(), true);
        Check.same("nor does reading", m.disk.read(96), 1);
        Check.same("still on", m.disk.line(), true);
        m.disk.write(100, 2);
        Check.same("another bit", m.disk.line(), true);
        m.disk.write(100, 0);
        Check.same("no bit", m.disk.line(), true);
        m.disk.write(100, 1);
        Check.same("its bit", m.disk.line(), false);
        Check.same("causes", m.disk.read(96), 0);
        m.kick();
        Check.same("nothing new, no cause", m.disk.line(), false);
        m.offerAndKick(0);
        Check.same("on again", m.disk.line(), true);
        m.offerAndKick(0);
        Check.same("the same cause once more", m.disk.read(96), 1);
    }

    private static void offByAReset() {
        Machine m = new Machine(1, 4);
        m.two(FLUSH, 0);
        m.offerAndKick(0);
        m.disk.write(112, 1);
        Check.same("another state leaves it on", m.disk.line(), true);
        m.disk.write(68, 0);
        Check.same("and so does a queue that is not ready", m.disk.line(), true);
        m.disk.write(112, 0);
        Check.same("off", m.disk.line(), false);
    }

    /** "causes get bit 0 if something was answered": nothing was. */
    private static void nothingAnswered() {
        Machine m = new Machine(1, 4);
        m.kick();
        m.expectAnswered("nothing offered", 0);
        Check.same("line", m.disk.line(), false);
        m.two(FLUSH, 0);
        m.offerAndKick(0);
        m.disk.write(100, 1);
        m.kick();
        Check.same("nothing more offered", m.disk.line(), false);
        m = new Machine(1, 4);
        m.offerAndKick(4);
        Check.same("nothing but a break", m.disk.read(96), 2);
    }

    /** "and bit 0 of the marks was 0" */
    private static void quietMark() {
        int[] quiet = {1, 3, 0x101, 0x8001, 0xFFFF};
        for (int marks : quiet) {
            Machine m = new Machine(1, 4);
            m.two(FLUSH, 0);
            m.disk.store(m.offers, 2, marks);
            m.offerAndKick(0);
            Check.same("answered at " + marks, m.disk.answered(), 1);
            Check.same("quiet at " + marks, m.disk.read(96), 0);
            Check.same("line at " + marks, m.disk.line(), false);
            m.disk.store(m.offers, 2, 0);
            m.kick();
            Check.same("what was quiet stays so", m.disk.line(), false);
        }
    }

    private static void otherMarksOfTheOffers() {
        int[] loud = {0, 2, 4, 0x100, 0x8000, 0xFFFE};
        for (int marks : loud) {
            Machine m = new Machine(1, 4);
            m.two(FLUSH, 0);
            m.disk.store(m.offers, 2, marks);
            m.offerAndKick(0);
            m.expectAnswered("marks " + marks, 1);
        }
    }

    private static void quietLeavesTheCause() {
        Machine m = new Machine(1, 4);
        m.two(FLUSH, 0);
        m.offerAndKick(0);
        m.disk.store(m.offers, 2, 1);
        m.offerAndKick(0);
        m.expectAnswered("a quiet answer behind a loud one", 2);
        m.kick();
        Check.same("and nothing behind that", m.disk.read(96), 1);
    }

    /** "the device BREAKS: the state gets bit 6, causes bit 1" */
    private static void brokenTurnsOn() {
        Machine m = new Machine(1, 4);
        m.disk.store(m.offers, 2, 1);
        m.two(FLUSH, 0);
        m.offerAndKick(4);
        m.expectBroken("quiet but broken");
        m.disk.write(100, 1);
        Check.same("bit 0 is not bit 1", m.disk.line(), true);
        m.disk.write(100, 2);
        Check.same("off", m.disk.line(), false);
        m.kick();
        Check.same("a broken device does not work, and does not break again", m.disk.line(), false);
    }

    /** "At the end, also when it broke, causes get bit 0 if something was answered" */
    private static void answeredThenBroken() {
        for (int quiet = 0; quiet < 2; quiet++) {
            Machine m = new Machine(1, 4);
            m.disk.store(m.offers, 2, quiet);
            m.two(FLUSH, 0);
            m.offer(0);
            m.offerAndKick(4);
            Check.same("answered, then broken", m.disk.read(96), quiet == 0 ? 3 : 2);
            Check.same("state", m.disk.read(112), 79);
            Check.same("answered", m.disk.answered(), 1);
            m.disk.write(100, 2);
            Check.same("the rest", m.disk.line(), quiet == 0);
        }
        // What was answered in an earlier working is no cause of this one.
        Machine m = new Machine(1, 4);
        m.two(FLUSH, 0);
        m.offerAndKick(0);
        m.disk.write(100, 1);
        m.offerAndKick(4);
        Check.same("answered by an earlier working", m.disk.read(96), 2);
        m = new Machine(1, 4);
        m.two(FLUSH, 0);
        m.offerAndKick(0);
        m.offerAndKick(4);
        Check.same("an earlier cause stays", m.disk.read(96), 3);
    }

    /** "bit 0 of the marks was 0 when they were read last": requests that lay their results over the marks. */
    private static void marksOfTheLastReading() {
        Machine m = resultOverTheMarks(FLUSH);
        m.disk.store(m.offers, 2, 1);
        m.offerAndKick(0);
        m.expectAnswered("result 0 took the quiet mark away", 1);
        m = resultOverTheMarks(Machine.READ);
        m.offerAndKick(0);
        Check.same("result 1 set the quiet mark", m.disk.read(96), 0);
        Check.same("answered", m.disk.answered(), 1);
        // Before a break they were read last behind the answer, too.
        m = resultOverTheMarks(FLUSH);
        m.disk.store(m.offers, 2, 1);
        m.offer(0);
        m.offerAndKick(4);
        Check.same("loud, then broken", m.disk.read(96), 3);
        m = resultOverTheMarks(Machine.READ);
        m.offer(0);
        m.offerAndKick(4);
        Check.same("quiet, then broken", m.disk.read(96), 2);
    }

    private static Machine resultOverTheMarks(int kind) {
        Machine m = new Machine(1, 4);
        m.head(Machine.HEADS, kind, 5);
        m.block(0, Machine.HEADS, 16, 1, 2);
        m.block(2, Machine.DATA, 512, 3, 1);
        m.block(1, m.offers, 1, 2, 0);
        return m;
    }
}

/** Promise 6: the line is on as long as causes are not 0. */
public final class LineTest {
    public static void main(String[] args) {
        answeredTurnsOn();
        quietMarkKeepsOff();
        brokenTurnsOn();
        bothCauses();
        nothingOffered();
        marksOfTheLastReading();
        Check.end();
    }

    private static void answeredTurnsOn() {
        Machine m = new Machine(1, 4);
        m.two(4, 0);
        m.offer(0);
        Check.same("before", m.disk.line(), false);
        m.kick();
        Check.same("after", m.disk.line(), true);
        m.disk.write(100, 2);
        Check.same("another bit", m.disk.read(96), 1);
        Check.same("still on", m.disk.line(), true);
        m.disk.write(100, 0);
        Check.same("no bit", m.disk.line(), true);
        m.disk.write(100, -1);
        Check.same("all bits", m.disk.line(), false);
        Check.same("causes", m.disk.read(96), 0);
        m.kick();
        Check.same("nothing new, no cause", m.disk.line(), false);
        m.offerAndKick(0);
        Check.same("on again", m.disk.line(), true);
        m.disk.write(112, 0);
        Check.same("off by a reset", m.disk.line(), false);
    }

    private static void quietMarkKeepsOff() {
        Machine m = new Machine(1, 4);
        m.two(4, 0);
        m.disk.store(m.offers, 2, 1);
        m.offerAndKick(0);
        Check.same("answered", m.disk.answered(), 1);
        Check.same("quiet", m.disk.line(), false);
        m.disk.store(m.offers, 2, 0xFFFE);
        m.kick();
        Check.same("nothing answered, so no cause", m.disk.line(), false);
        m.offerAndKick(0);
        Check.same("other marks are not looked at", m.disk.line(), true);
        m.disk.store(m.offers, 2, 1);
        m.offerAndKick(0);
        Check.same("a quiet answer leaves the cause", m.disk.read(96), 1);
    }

    private static void brokenTurnsOn() {
        Machine m = new Machine(1, 4);
        m.disk.store(m.offers, 2, 1);
        m.two(4, 0);
        m.offerAndKick(4);
        m.expectBroken("quiet but broken");
        m.disk.write(100, 1);
        Check.same("bit 0 is not bit 1", m.disk.line(), true);
        m.disk.write(100, 2);
        Check.same("off", m.disk.line(), false);
        m.kick();
        Check.same("a broken device does not work", m.disk.line(), false);
    }

    private static void bothCauses() {
        for (int quiet = 0; quiet < 2; quiet++) {
            Machine m = new Machine(1, 4);
            m.disk.store(m.offers, 2, quiet);
            m.two(4, 0);
            m.offer(0);
            m.offerAndKick(4);
            Check.same("answered, then broken", m.disk.read(96), quiet == 0 ? 3 : 2);
            Check.same("state", m.disk.read(112), 79);
            Check.same("answered", m.disk.answered(), 1);
            m.disk.write(100, 2);
            Check.same("the rest", m.disk.line(), quiet == 0);
        }
    }

    private static void nothingOffered() {
        Machine m = new Machine(1, 4);
        m.kick();
        m.expectAnswered("nothing offered", 0);
        Check.same("line", m.disk.line(), false);
    }

    /** A request that lays its result over the marks: the reading behind it counts. */
    private static void marksOfTheLastReading() {
        Machine m = new Machine(1, 4);
        m.head(Machine.HEADS, 4, 0);
        m.block(0, Machine.HEADS, 16, 1, 1);
        m.block(1, m.offers, 1, 2, 0);
        m.disk.store(m.offers, 2, 1);
        m.offerAndKick(0);
        Check.same("result 0 took the quiet mark away", m.disk.line(), true);
        m = new Machine(1, 4);
        m.head(Machine.HEADS, 0, 5);
        m.block(0, Machine.HEADS, 16, 1, 2);
        m.block(2, Machine.DATA, 512, 3, 1);
        m.block(1, m.offers, 1, 2, 0);
        m.offerAndKick(0);
        Check.same("answered", m.disk.answered(), 1);
        Check.same("result 1 set the quiet mark", m.disk.line(), false);
    }
}

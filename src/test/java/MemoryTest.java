import com.sun.management.ThreadMXBean;
import java.lang.management.ManagementFactory;

/** "All memory is the class's own, made once": what the machine counts as made while calls are worked. */
public final class MemoryTest {
    /** What the machine may make by the way: far below a row of 8192 bytes, or an object for each call. */
    private static final long BY_THE_WAY = 1024;
    /** All calls of one run share a room of 7.3 million elements, in which ten objects are to fit. */
    private static final long ONE_OBJECT = 5000000;
    private static final ThreadMXBean MACHINE = (ThreadMXBean) ManagementFactory.getThreadMXBean();
    private static final int ROUNDS = 6;

    /** From ONE + WORD 8 to WORD 16: fails for L, multiplies by 165 for R. */
    private static final String SPEECH = "a = comp pair witness 10100101 iden jet 28\n"
            + "b = comp pair iden unit case hidden " + "0".repeat(62) + "ff take a";

    private MemoryTest() {
    }

    public static void main(String[] args) {
        Checks.test("memory: that of an object", MemoryTest::ofAnObject);
        Checks.test("memory: no call makes any", MemoryTest::ofCalls);
        Checks.end();
    }

    private static long made() {
        return MACHINE.getCurrentThreadAllocatedBytes();
    }

    private static void ofAnObject() {
        new House();
        long before = made();
        House x = new House();
        long bytes = made() - before;
        Checks.due("it is made at once: " + bytes, bytes > 100000);
        Checks.due("it is not too much: " + bytes, bytes < ONE_OBJECT);
        Checks.due("it is a new one", x.look(0), 0);
    }

    private static void ofCalls() {
        long[] speech = eights(SPEECH);
        long due = work(new House(), speech);
        House x = new House();
        boolean same = true;
        long before = made();
        for (int i = 0; i < ROUNDS; i++) {
            same &= work(x, speech) == due;
        }
        long bytes = made() - before;
        Checks.due("none is made: " + bytes, bytes < BY_THE_WAY);
        Checks.due("all rounds answer the same", same);
        Checks.due("two runs a round gave a value", x.look(10), 2 * ROUNDS);
    }

    private static long[] eights(String text) {
        long[] rows = new long[(text.length() + 7) / 8];
        for (int i = 0; i < 8 * rows.length; i++) {
            long b = i < text.length() ? text.charAt(i) : ' ';
            rows[i / 8] |= b << 8 * (i % 8);
        }
        return rows;
    }

    /** Each method of the face, with its answers below 0, too; the answers are mixed into one number. */
    private static long work(House x, long[] speech) {
        long all = 0;
        for (long eight : speech) {
            x.feed(8, eight);
        }
        all = 31 * all + x.say();
        all = 31 * all + x.again();
        all = 31 * all + x.load();
        int last = x.look(0) - 1;
        all = 31 * all + x.node(last, 7);
        all = 31 * all + x.root(last, 0) + x.typeRoot(last, false, 7) + x.typeRoot(last, true, 0);
        all = 31 * all + x.type(last, false) + x.out(0);
        all = 31 * all + worked(x, 0x80aa, false);
        all = 31 * all + worked(x, 0x80aa, true) + x.out(0);
        all = 31 * all + worked(x, 0, false);
        all = 31 * all + worked(x, 1, true);
        x.feed(2, 0x80aa);
        all = 31 * all + x.run(1, 1, false);
        x.feed(2, 0x80aa);
        all = 31 * all + x.value(last, false) + x.out(0);
        all = 31 * all + x.again() + x.worth(last, false) + x.out(0);
        all = 31 * all + x.value(last, true) + x.worth(last, true) + x.feed(1, 7) + x.wipe();
        all = 31 * all + x.speak() + x.out(8);
        all = 31 * all + x.again() + x.say() + x.look(14) + x.write();
        all = 31 * all + x.feed(1, '!') + x.say() + x.look(14);
        all = 31 * all + x.feed(1, '!') + x.load() + x.look(9);
        return all;
    }

    private static int worked(House x, long value, boolean defined) {
        x.feed(2, value);
        return x.run(10000, 10000, defined);
    }
}

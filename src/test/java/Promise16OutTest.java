import java.util.NoSuchElementException;

/** Promise 16: eight bytes of OUT from k on, lowest first, 0 behind its end. */
public final class Promise16OutTest {
    private Promise16OutTest() {
    }

    public static void main(String[] args) {
        Checks.test("promise 16: no byte k", Promise16OutTest::noByte);
        Checks.test("promise 16: an empty OUT", Promise16OutTest::empty);
        Checks.test("promise 16: lowest first", Promise16OutTest::lowestFirst);
        Checks.test("promise 16: 0 behind its end", Promise16OutTest::behindEnd);
        Checks.test("promise 16: .. where longer ones were before", Promise16OutTest::shorter);
        Checks.test("promise 16: 8192 bytes", Promise16OutTest::full);
        Checks.test("promise 16: nothing changes", Promise16OutTest::nothing);
        Checks.end();
    }

    private static void noByte() {
        House x = House.of("a = jet 94");
        x.feed(4, 1);
        Checks.due("run", x.run(1000, 1000, false), 4);
        for (int k : new int[] {-1, -4, -8, 4, 5, 8, 11, 12, 8191, 8192, Integer.MAX_VALUE, Integer.MAX_VALUE - 7,
            Integer.MIN_VALUE}) {
            Checks.dueThrows("out " + k, NoSuchElementException.class, () -> x.out(k));
        }
        Checks.dueRefused("out 4", x, NoSuchElementException.class, () -> x.out(4));
        Checks.due("out 3", x.out(3), 255);
        Checks.due("out 0", x.out(0), 0xfffffffeL);
    }

    private static void empty() {
        House x = new House();
        Checks.dueThrows("of a new object", NoSuchElementException.class, () -> x.out(0));
        House y = House.of("a = unit");
        Checks.due("out", y.out(0), 32);
        Checks.due("run", y.run(1, 1, false), 0);
        Checks.dueThrows("behind a run that gives nothing", NoSuchElementException.class, () -> y.out(0));
        y.feed(8, -1);
        Checks.dueThrows("the tape is another one", NoSuchElementException.class, () -> y.out(0));
    }

    private static void lowestFirst() {
        House y = House.of("a = pair take jet 95 drop jet 95");
        y.feed(8, ~0x8877665544332211L);
        y.feed(8, ~0xf0e0d0c0b0a09080L);
        Checks.due("run", y.run(1000, 1000, false), 16);
        Checks.due("from 0", y.out(0), 0x8877665544332211L);
        Checks.due("from 1", y.out(1), 0x8088776655443322L);
        Checks.due("from 7", y.out(7), 0xe0d0c0b0a0908088L);
        Checks.due("from 8", y.out(8), 0xf0e0d0c0b0a09080L);
        Checks.due("from 9", y.out(9), 0x00f0e0d0c0b0a090L);
        Checks.due("from 15", y.out(15), 0xf0);
    }

    private static void behindEnd() {
        for (int bytes = 1; bytes <= 8; bytes++) {
            StringBuilder s = new StringBuilder("n = jet 124 x1 = n ");
            for (int i = 2; i <= bytes; i++) {
                s.append("x").append(i).append(" = pair n x").append(i - 1).append(" ");
            }
            House x = House.of(s.toString());
            Checks.due("run", x.run(1000, 1000, false), bytes);
            for (int k = 0; k < bytes; k++) {
                int left = bytes - k;
                Checks.due("from " + k, x.out(k), left == 8 ? -1 : (1L << 8 * left) - 1);
            }
            int beyond = bytes;
            Checks.dueThrows("from " + bytes, NoSuchElementException.class, () -> x.out(beyond));
        }
    }

    private static void shorter() {
        House x = House.of("a = jet 95 b = comp a jet 79");
        x.feed(8, 0);
        Checks.due("value", x.value(0, false), 17);
        Checks.due("OUT", x.look(8), 17);
        x.feed(8, 0);
        Checks.due("a bit", x.run(1000, 1000, false), 1);
        Checks.due("out", x.out(0), 0);
        Checks.due("speak", x.speak() > 20);
        Checks.due("type", x.type(2, true), 5);
        Checks.due("out", x.out(0), 0x29312b3128L);
        Checks.due("out", x.out(4), 0x29);
        Checks.dueThrows("out 5", NoSuchElementException.class, () -> x.out(5));
    }

    private static void full() {
        House x = new House();
        String speech = Rows.speechOf(8192);
        byte[] want = new Oracle().say(Checks.bytes(speech));
        x.say(speech);
        for (int k = 8180; k < 8192; k++) {
            long eight = 0;
            for (int i = 7; i >= 0; i--) {
                eight = eight << 8 | (k + i < 8192 ? want[k + i] & 255 : 0);
            }
            Checks.due("from " + k, x.out(k), eight);
        }
        Checks.dueThrows("out 8192", NoSuchElementException.class, () -> x.out(8192));
    }

    private static void nothing() {
        House x = House.of("a = comp witness 00001111 jet 92");
        x.feed(3, 5);
        String before = x.state();
        for (int k = 0; k < 3; k++) {
            x.out(k);
        }
        Checks.due("state", x.state(), before);
    }
}

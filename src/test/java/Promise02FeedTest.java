/** Promise 2: the n lowest bytes of v, lowest first, come behind the tape: how many it has. */
public final class Promise02FeedTest {
    private static final long V = 0x8182a3a4c5c6e7f8L;

    private Promise02FeedTest() {
    }

    public static void main(String[] args) {
        Checks.test("promise 2: n is not 1 .. 8", Promise02FeedTest::wrongNumber);
        Checks.test("promise 2: n is 1 .. 8", Promise02FeedTest::rightNumber);
        Checks.test("promise 2: the n lowest bytes, lowest first", Promise02FeedTest::lowestFirst);
        Checks.test("promise 2: behind the tape", Promise02FeedTest::behindTheTape);
        Checks.test("promise 2: bytes above 127 and 0", Promise02FeedTest::allBytes);
        Checks.test("promise 2: 8192 bytes, and one more", Promise02FeedTest::full);
        Checks.test("promise 2: eight bytes up to 8192, and beyond", Promise02FeedTest::fullByEight);
        Checks.test("promise 2: both exceptions hold", Promise02FeedTest::bothHold);
        Checks.test("promise 2: what is refused changes nothing", Promise02FeedTest::refused);
        Checks.end();
    }

    private static void wrongNumber() {
        House x = new House();
        for (int n : new int[] {0, -1, -8, 9, 10, 16, 256 + 1, 65536 + 8, Integer.MIN_VALUE, Integer.MIN_VALUE + 1,
            Integer.MAX_VALUE}) {
            Checks.dueThrows("feed " + n, IllegalArgumentException.class, () -> x.feed(n, V));
            Checks.due("tape", x.look(7), 0);
        }
    }

    private static void rightNumber() {
        House x = new House();
        int all = 0;
        for (int n = 1; n <= 8; n++) {
            all += n;
            Checks.due("feed " + n, x.feed(n, V), all);
            Checks.due("tape", x.look(7), all);
        }
        Checks.due("wipe", x.wipe(), 36);
        Checks.due("from the start", x.feed(8, 0), 8);
    }

    /** Jet 95 inverts eight bytes, so that these can be seen. */
    private static void lowestFirst() {
        House x = House.of("a = jet 95");
        for (int n = 1; n <= 8; n++) {
            x.feed(n, V);
            if (n < 8) {
                x.feed(8 - n, 0x0102030405060708L);
            }
            Checks.due("run", x.run(1000, 1000, false), 8);
            long low = n == 8 ? -1L : (1L << 8 * n) - 1;
            long want = V & low | (n == 8 ? 0 : 0x0102030405060708L << 8 * n);
            Checks.due("bytes with " + n, x.out(0), ~want);
        }
    }

    private static void behindTheTape() {
        House x = House.of("a = jet 95");
        for (int i = 1; i <= 8; i++) {
            Checks.due("feed", x.feed(1, 0x7f00 + 16 * i), i);
        }
        Checks.due("run", x.run(1000, 1000, false), 8);
        Checks.due("bytes", x.out(0), ~0x8070605040302010L);
        x.again();
        Checks.due("behind what again has put there", x.feed(2, 0), 10);
        Checks.due("too many", x.run(1000, 1000, false), -4);
        Checks.due("feed behind a used up tape", x.feed(5, 0), 5);
    }

    private static void allBytes() {
        House x = House.of("a = jet 92");
        for (int b = 0; b < 256; b += 5) {
            x.feed(1, b | -256L);
            Checks.due("run", x.run(1000, 1000, false), 1);
            Checks.due("byte " + b, x.out(0), 255 - b);
        }
    }

    private static void full() {
        House x = Rows.tapeOf(8189);
        Checks.due("tape", x.look(7), 8189);
        Checks.dueThrows("four more", IllegalStateException.class, () -> x.feed(4, V));
        Checks.dueThrows("eight more", IllegalStateException.class, () -> x.feed(8, V));
        Checks.due("tape", x.look(7), 8189);
        Checks.due("two more", x.feed(2, V), 8191);
        Checks.dueThrows("two more again", IllegalStateException.class, () -> x.feed(2, V));
        Checks.due("tape", x.look(7), 8191);
        Checks.due("the last", x.feed(1, V), 8192);
        Checks.due("tape", x.look(7), 8192);
        for (int n = 1; n <= 8; n++) {
            int more = n;
            Checks.dueThrows("beyond", IllegalStateException.class, () -> x.feed(more, V));
        }
        Checks.due("tape", x.look(7), 8192);
        Checks.due("wipe", x.wipe(), 8192);
        Checks.due("feed", x.feed(8, V), 8);
        House y = Rows.tapeOf(8189);
        Checks.due("three more", y.feed(3, V), 8192);
    }

    private static void fullByEight() {
        House x = Rows.tapeOf(8181);
        Checks.due("three more", x.feed(3, V), 8184);
        Checks.due("eight more", x.feed(8, V), 8192);
        House y = Rows.tapeOf(8181);
        Checks.due("four more", y.feed(4, V), 8185);
        Checks.dueThrows("eight more", IllegalStateException.class, () -> y.feed(8, V));
        Checks.due("tape", y.look(7), 8185);
        Checks.due("seven more", y.feed(7, V), 8192);
    }

    private static void bothHold() {
        House x = Rows.tapeOf(8189);
        x.feed(3, 0);
        for (int n : new int[] {0, 9, -1, Integer.MAX_VALUE, Integer.MIN_VALUE}) {
            Checks.dueThrows("feed " + n, IllegalArgumentException.class, () -> x.feed(n, V));
        }
        Checks.due("tape", x.look(7), 8192);
    }

    private static void refused() {
        House x = House.of("a = jet 95");
        x.feed(4, V);
        Checks.dueRefused("feed 0", x, IllegalArgumentException.class, () -> x.feed(0, 1));
        Checks.dueRefused("feed 9", x, IllegalArgumentException.class, () -> x.feed(9, 1));
        x.feed(4, V >>> 32);
        Checks.due("run", x.run(1000, 1000, false), 8);
        Checks.due("bytes", x.out(0), ~V);
        House y = Rows.tapeOf(8189);
        y.feed(1, '(');
        Checks.dueRefused("feed 3", y, IllegalStateException.class, () -> y.feed(3, '='));
        Checks.dueRefused("feed 8", y, IllegalStateException.class, () -> y.feed(8, '='));
        Checks.due("what stands there is no value's text", y.worth(Rows.PAIRS, true), -4);
        House z = Rows.tapeOf(8189);
        Checks.dueRefused("feed 4", z, IllegalStateException.class, () -> z.feed(4, '='));
        Checks.due("the text as it was", z.worth(Rows.PAIRS, true), 0);
    }
}

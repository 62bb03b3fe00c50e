import java.util.NoSuchElementException;

/** Promise 13: the text of a value of node i's source or target. */
public final class Promise13ValueTest {
    private Promise13ValueTest() {
    }

    public static void main(String[] args) {
        Checks.test("promise 13: no such node", Promise13ValueTest::noNode);
        Checks.test("promise 13: -2 for a HIDDEN node", Promise13ValueTest::hidden);
        Checks.test("promise 13: -4, another length", Promise13ValueTest::wrongLength);
        Checks.test("promise 13: -4, no 0s up to a byte's end", Promise13ValueTest::wrongEnd);
        Checks.test("promise 13: -4, no value", Promise13ValueTest::noValue);
        Checks.test("promise 13: ONE, and types without bits", Promise13ValueTest::ones);
        Checks.test("promise 13: BIT", Promise13ValueTest::bits);
        Checks.test("promise 13: WORD 2, 4, 8 up to 2048", Promise13ValueTest::words);
        Checks.test("promise 13: digits 0 to 9, a to f", Promise13ValueTest::digits);
        Checks.test("promise 13: sums, L and R", Promise13ValueTest::sums);
        Checks.test("promise 13: products", Promise13ValueTest::products);
        Checks.test("promise 13: source and target", Promise13ValueTest::sides);
        Checks.test("promise 13: 8192 bytes and 8193", Promise13ValueTest::longest);
        Checks.test("promise 13: -1, far above 8192 bytes", Promise13ValueTest::farAbove);
        Checks.test("promise 13: -2 ahead of -4 ahead of -1", Promise13ValueTest::order);
        Checks.test("promise 13: what it leaves", Promise13ValueTest::leaves);
        Checks.end();
    }

    private static void due(House x, int i, boolean target, String bits, String text) {
        x.putBits(bits);
        Checks.due("value " + bits, x.value(i, target), text.length());
        Checks.due("text of " + bits, x.outBytes(), Checks.bytes(text));
        Checks.due("tape", x.look(7), 0);
    }

    private static int none(House x, int i, String bits) {
        x.putBits(bits);
        return x.value(i, true);
    }

    private static void noNode() {
        House x = House.ofBits(Bits.program("8", "3 1", "3 1"));
        x.feed(1, 0);
        for (int i : new int[] {-1, 3, 4, 400, Integer.MAX_VALUE, Integer.MIN_VALUE}) {
            Checks.dueThrows("source of " + i, NoSuchElementException.class, () -> x.value(i, false));
            Checks.dueThrows("target of " + i, NoSuchElementException.class, () -> x.value(i, true));
        }
        Checks.dueRefused("value of 3", x, NoSuchElementException.class, () -> x.value(3, true));
        Checks.due("the tape as it was", x.value(1, true), 1);
        House y = new House();
        y.feed(1, 32);
        Checks.dueRefused("without a program", y, NoSuchElementException.class, () -> y.value(0, true));
        Checks.due("the tape as it was", y.load(), 0);
    }

    private static void hidden() {
        House x = House.ofBits(Bits.program("8", "11", "1 2 1"));
        for (int bytes = 0; bytes <= 2; bytes++) {
            x.put(new byte[bytes]);
            Checks.due("source", x.value(1, false), -2);
            Checks.due("tape", x.look(7), 0);
            x.put(new byte[bytes]);
            Checks.due("target", x.value(1, true), -2);
            Checks.due("tape", x.look(7), 0);
        }
        Checks.due("OUT", x.look(8), 0);
    }

    private static void wrongLength() {
        House x = House.of("a = jet 121");
        for (int bytes = 0; bytes <= 4; bytes++) {
            x.put(new byte[bytes]);
            Checks.due(bytes + " bytes", x.value(0, true), bytes == 2 ? 5 : -4);
            Checks.due("tape", x.look(7), 0);
        }
        Checks.due("a byte for no bits", none(House.of("a = unit"), 0, "00000000"), -4);
    }

    private static void wrongEnd() {
        House x = House.of("b = left unit a = pair b pair b b");
        int last = x.look(0) - 1;
        due(x, last, true, "101", "(1,(0,1))");
        for (int i = 0; i < 5; i++) {
            Checks.due("a 1 behind", none(x, last, "101" + "0".repeat(i) + "1"), -4);
        }
        Checks.due("a byte behind", none(x, last, "1010000000000000"), -4);
        due(x, last, true, "10100000", "(1,(0,1))");
    }

    private static void noValue() {
        House x = House.of("a = right jet 120 b = comp a (comp (pair iden unit) case (take left unit) (take right iden))");
        int last = x.look(0) - 1;
        Checks.due("width", x.look(2), 9);
        due(x, last, true, "000000000", "LU");
        for (int i = 1; i <= 8; i++) {
            Checks.due("a 1 for a 0", none(x, last, "0".repeat(i) + "1" + "0".repeat(8 - i)), -4);
        }
        due(x, last, true, "100000001", "R#01");
        due(x, last, true, "111111111", "R#ff");
        // deep inside
        House y = House.of("s = right right left unit a = pair s pair s s");
        last = y.look(0) - 1;
        Checks.due("width", y.look(2), 9);
        due(y, last, true, "000" + "100" + "110", "(LU,(RLU,R" + "R0))");
        due(y, last, true, "111" + "100" + "000", "(RR1,(RLU,LU))");
        Checks.due("the first is none", none(y, last, "001" + "100" + "000"), -4);
        Checks.due("the second is none", none(y, last, "000" + "101" + "000"), -4);
        Checks.due("the third is none", none(y, last, "000" + "100" + "010"), -4);
    }

    private static void ones() {
        House x = House.of("a = pair unit pair unit unit");
        due(x, 0, true, "", "U");
        due(x, 1, true, "", "(U,U)");
        due(x, 2, true, "", "(U,(U,U))");
    }

    private static void bits() {
        House x = House.of("a = left unit");
        due(x, 1, true, "0", "0");
        due(x, 1, true, "1", "1");
        // BIT + ONE and ONE + BIT
        House y = House.of("a = left left unit");
        due(y, 2, true, "00", "L0");
        due(y, 2, true, "01", "L1");
        due(y, 2, true, "10", "RU");
        Checks.due("no value", none(y, 2, "11"), -4);
        House z = House.of("a = right left unit");
        due(z, 2, true, "00", "LU");
        due(z, 2, true, "10", "R0");
        due(z, 2, true, "11", "R1");
        Checks.due("no value", none(z, 2, "01"), -4);
    }

    private static void words() {
        String[] told = new String[13];
        told[0] = "8";
        told[1] = "3 1";
        for (int i = 2; i < 13; i++) {
            told[i] = "2 1 1";
        }
        House x = House.ofBits(Bits.program(told));
        due(x, 1, true, "1", "1");
        due(x, 2, true, "10", "(1,0)");
        due(x, 3, true, "1001", "#9");
        due(x, 4, true, "10100101", "#a5");
        due(x, 5, true, "0000111101011010", "#0f5a");
        for (int i = 6; i < 13; i++) {
            int wide = 1 << i - 1;
            due(x, i, true, "0".repeat(wide), "#" + "0".repeat(wide / 4));
            if (x.left() < 150) {
                x = House.ofBits(Bits.program(told));
            }
            due(x, i, true, "0001" + "1".repeat(wide - 8) + "1110", "#1" + "f".repeat(wide / 4 - 2) + "e");
        }
    }

    private static void digits() {
        House x = House.of("b = left unit c = pair b b a = pair c c");
        int last = x.look(0) - 1;
        for (int i = 0; i < 16; i++) {
            due(x, last, true, Bits.number(i, 4), "#" + "0123456789abcdef".charAt(i));
        }
    }

    private static void sums() {
        House x = House.of("a = left jet 120");
        due(x, 1, true, "011110000", "L#f0");
        due(x, 1, true, "100000000", "RU");
        House y = House.of("b = left unit c = pair b b d = pair c c a = right left right d");
        int last = y.look(0) - 1;
        Checks.due("width", y.look(2), 7);
        due(y, last, true, "0000000", "LU");
        due(y, last, true, "1100000", "RRU");
        due(y, last, true, "1000000", "RLLU");
        due(y, last, true, "1011010", "RLR#a");
    }

    private static void products() {
        House x = House.of("b = left unit c = pair b b d = pair c c e = pair d d a = pair (pair c d) (pair e (pair unit b))");
        int last = x.look(0) - 1;
        due(x, last, true, "10" + "1100" + "00111101" + "1", "(((1,0),#c),(#3d,(U,1)))");
        // halves that are words, but of two sizes; or one of them with a ONE
        House y = House.of("b = left unit c = pair b b a = pair (pair c c) pair c pair c unit");
        last = y.look(0) - 1;
        due(y, last, true, "1001" + "01" + "10", "(#9,((0,1),((1,0),U)))");
        House z = House.of("b = left unit c = pair b b a = pair c pair c c");
        last = z.look(0) - 1;
        due(z, last, true, "10" + "1001", "((1,0),#9)");
        House v = House.of("b = left unit a = pair pair b b pair b pair b unit");
        last = v.look(0) - 1;
        due(v, last, true, "1011", "((1,0),(1,(1,U)))");
    }

    private static void sides() {
        House x = House.of("a = jet 4");
        due(x, 0, false, "1" + "00000001" + "00000010", "(1,#0102)");
        due(x, 0, true, "0" + "00000001", "(0,#01)");
        x.putBits("0" + "00000001");
        Checks.due("the other side", x.value(0, false), -4);
        House y = House.of("a = take iden");
        due(y, 1, false, "", "(U,U)");
        due(y, 1, true, "", "U");
    }

    /** The text of 2048 Us has 8189 bytes, each LEFT above it one more. */
    private static void longest() {
        String[] told = java.util.Arrays.copyOf(Rows.pairNodes(12), 18);
        for (int i = 12; i < 18; i++) {
            told[i] = "3 1";
        }
        House x = House.ofBits(Bits.program(told));
        for (int i = 11; i < 18; i++) {
            int lefts = i - 11;
            x.put(new byte[(lefts + 7) / 8]);
            Checks.due(8189 + lefts + " bytes", x.value(i, true), lefts > 3 ? -1 : 8189 + lefts);
            Checks.due("OUT", x.look(8), Math.min(8192, 8189 + lefts));
            Checks.due("tape", x.look(7), 0);
        }
        Checks.due("the last bytes", x.out(8184), 0x2929292929292929L);
        Checks.due("the last byte", x.out(8191), ')');
        Checks.due("the first bytes", x.out(0), 0x28282828284c4c4cL);
        // by the value: RU is short, L and so on is long
        x.put(Checks.bits("1000"));
        Checks.due("another value of the type", x.value(15, true), 2);
        Checks.due("text", x.outBytes(), Checks.bytes("RU"));
        x.put(Checks.bits("0001"));
        Checks.due("another value of the type", x.value(15, true), 5);
        Checks.due("text", x.outBytes(), Checks.bytes("LLLRU"));
    }

    private static void farAbove() {
        House x = House.ofBits(Bits.program(Rows.pairNodes(400)));
        Checks.due("2^10 Us", x.value(10, true), 4093);
        for (int i : new int[] {12, 13, 20, 27, 28, 29, 30, 31, 32, 33, 34, 60, 61, 62, 63, 64, 65, 66, 100, 399}) {
            Checks.due("2^" + i + " Us", x.value(i, true), -1);
            Checks.due("OUT", x.look(8), 4093);
        }
    }

    private static void order() {
        House x = House.ofBits(Bits.program(Rows.pairNodes(100)));
        x.feed(1, 0);
        Checks.due("too long, and no value", x.value(99, true), -4);
        x.feed(8, -1);
        Checks.due("too long, and no value", x.value(12, true), -4);
        House y = House.ofBits(Bits.program("8", "11", "1 2 1"));
        y.feed(8, -1);
        Checks.due("HIDDEN, and no value", y.value(1, true), -2);
    }

    private static void leaves() {
        House x = House.of("a = case (take jet 92) hidden " + "0".repeat(64));
        int last = x.look(0) - 1;
        x.feed(1, 7);
        Checks.due("value", x.value(0, true), 3);
        String before = x.state();
        x.feed(2, 7);
        Checks.due("none", x.value(0, true), -4);
        Checks.due("state", x.state(), before);
        x.feed(1, 7);
        Checks.due("HIDDEN", x.value(last - 1, true), -2);
        Checks.due("state", x.state(), before);
        x.feed(1, 9);
        Checks.due("value", x.value(0, true), 3);
        Checks.due("text", x.outBytes(), Checks.bytes("#09"));
        House y = House.ofBits(Bits.program(Rows.pairNodes(13)));
        Checks.due("value", y.value(0, true), 1);
        before = y.state();
        Checks.due("too long", y.value(12, true), -1);
        Checks.due("state", y.state(), before);
        Checks.due("OUT", y.out(0), 'U');
    }
}

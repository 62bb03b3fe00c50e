/** Promise 5: run: what it refuses, the answers below 0 and their order, what it gives and leaves. */
public final class Promise05RunTest {
    private static final String HIDDEN = "hidden " + "0".repeat(64);
    private static final int MOST = Integer.MAX_VALUE;
    /** From ONE + WORD 8 to ONE + WORD 8, the bits inverted. */
    private static final String EITHER = "a = comp (pair iden unit) case (take left unit) (take right jet 92)";

    private Promise05RunTest() {
    }

    public static void main(String[] args) {
        Checks.test("promise 5: steps or cells below 1", Promise05RunTest::belowOne);
        Checks.test("promise 5: no program", Promise05RunTest::noProgram);
        Checks.test("promise 5: what is refused changes nothing", Promise05RunTest::refused);
        Checks.test("promise 5: -4, the tape is shorter, longer or empty", Promise05RunTest::wrongLength);
        Checks.test("promise 5: -4, 0s up to a byte's end", Promise05RunTest::wrongEnd);
        Checks.test("promise 5: -4, no value", Promise05RunTest::noValue);
        Checks.test("promise 5: -4, the value of ONE has no bits", Promise05RunTest::noBits);
        Checks.test("promise 5: -2, steps as told and one less", Promise05RunTest::steps);
        Checks.test("promise 5: -2, cells as told and one less", Promise05RunTest::cells);
        Checks.test("promise 5: -2, by the bounds, not by what is used", Promise05RunTest::byBounds);
        Checks.test("promise 5: -2, 1000000 steps and one more", Promise05RunTest::million);
        Checks.test("promise 5: -2, bounds that are cut at 2147483647", Promise05RunTest::cutBounds);
        Checks.test("promise 5: -1, FAIL", Promise05RunTest::fails);
        Checks.test("promise 5: -1, a HIDDEN child", Promise05RunTest::hidden);
        Checks.test("promise 5: -4 ahead of -2 ahead of -1", Promise05RunTest::order);
        Checks.test("promise 5: with -4, -2, -1 OUT stays, the tape is used up", Promise05RunTest::leaves);
        Checks.test("promise 5: OUT is the value and 0s up to a byte's end", Promise05RunTest::ends);
        Checks.test("promise 5: each combinator", Promise05RunTest::combinators);
        Checks.test("promise 5: 0s between", Promise05RunTest::zerosBetween);
        Checks.test("promise 5: 0s between, from none to many", Promise05RunTest::manyZeros);
        Checks.test("promise 5: 0s between, where 1s were before", Promise05RunTest::staleOnes);
        Checks.test("promise 5: rows of all lengths, at all places", Promise05RunTest::manyLengths);
        Checks.test("promise 5: WITNESS nodes give their own bits", Promise05RunTest::witnesses);
        Checks.test("promise 5: 2048 bits", Promise05RunTest::widest);
        Checks.test("promise 5: 400 nodes deep", Promise05RunTest::deepest);
        Checks.test("promise 5: defined gives the same", Promise05RunTest::defined);
        Checks.end();
    }

    private static void belowOne() {
        House x = House.of("a = unit");
        for (int n : new int[] {0, -1, -2, Integer.MIN_VALUE}) {
            Checks.dueThrows("steps " + n, IllegalArgumentException.class, () -> x.run(n, 1, false));
            Checks.dueThrows("cells " + n, IllegalArgumentException.class, () -> x.run(1, n, false));
            Checks.dueThrows("both " + n, IllegalArgumentException.class, () -> x.run(n, n, true));
        }
        Checks.due("1 and 1", x.run(1, 1, false), 0);
        Checks.due("1 and 1, defined", x.run(1, 1, true), 0);
        Checks.due("most", x.run(MOST, MOST, false), 0);
    }

    private static void noProgram() {
        House x = new House();
        Checks.dueThrows("run", IllegalStateException.class, () -> x.run(1, 1, false));
        Checks.dueThrows("run defined", IllegalStateException.class, () -> x.run(MOST, MOST, true));
        Checks.dueThrows("both hold", IllegalArgumentException.class, () -> x.run(0, 1, false));
        Checks.dueThrows("both hold", IllegalArgumentException.class, () -> x.run(1, 0, true));
        Checks.due("a program that is only said", x.say("a = unit"), 0);
        Checks.dueThrows("is none", IllegalStateException.class, () -> x.run(1, 1, false));
        Checks.due("a program that is refused", x.load("1"), 1);
        Checks.dueThrows("is none", IllegalStateException.class, () -> x.run(1, 1, false));
    }

    private static void refused() {
        House x = new House();
        x.feed(1, 32);
        Checks.dueRefused("run", x, IllegalStateException.class, () -> x.run(1, 1, false));
        Checks.due("the tape as it was", x.load(), 0);
        House y = House.of("a = jet 92");
        y.feed(1, 0x0f);
        Checks.dueRefused("run", y, IllegalArgumentException.class, () -> y.run(0, 100, false));
        Checks.dueRefused("run", y, IllegalArgumentException.class, () -> y.run(100, 0, true));
        Checks.due("the tape as it was", y.run(100, 100, false), 1);
        Checks.due("OUT", y.out(0), 0xf0);
    }

    private static void wrongLength() {
        House x = House.of("a = jet 93");
        for (int size = 0; size <= 4; size++) {
            x.put(new byte[size]);
            Checks.due(size + " bytes", x.run(100, 100, false), size == 2 ? 2 : -4);
            Checks.due("tape", x.look(7), 0);
            x.put(new byte[size]);
            Checks.due(size + " bytes, defined", x.run(100, 100, true), size == 2 ? 2 : -4);
        }
        House y = House.of("a = comp (pair iden unit) case unit unit");
        Checks.due("no byte for a bit", y.run(100, 100, false), -4);
        y.feed(2, 0);
        Checks.due("two bytes for a bit", y.run(100, 100, false), -4);
        y.feed(1, 0);
        Checks.due("a byte for a bit", y.run(100, 100, false), 0);
    }

    /** Jet 5: a BIT and two words of 16 bits, 33 in all. */
    private static void wrongEnd() {
        House x = House.of("a = jet 5");
        Checks.due("width", x.look(1), 33);
        for (int i = 0; i < 7; i++) {
            Checks.due("a 1 behind", x.run("0".repeat(33 + i) + "1" + "0".repeat(6 - i), false), -4);
        }
        Checks.due("0s behind", x.run("0".repeat(40), false), 3);
        Checks.due("the last bit", x.run("0".repeat(32) + "1" + "0".repeat(7), false), 3);
        Checks.due("a byte more", x.run("0".repeat(48), false), -4);
        Checks.due("a byte less", x.run("0".repeat(32), false), -4);
    }

    private static void noValue() {
        House x = House.of(EITHER);
        Checks.due("width", x.look(1), 9);
        Checks.due("0 and 0s", x.run("000000000", false), 2);
        for (int i = 1; i <= 8; i++) {
            Checks.due("0, then a 1", x.run("0".repeat(i) + "1" + "0".repeat(8 - i), false), -4);
        }
        Checks.due("1 and 1s", x.run("111111111", false), 2);
        Checks.due("value", x.outBytes(), Checks.bits("100000000"));
        // the greater part on the left
        House y = House.of("a = comp (pair iden unit) case (take left jet 92) (take right unit)");
        Checks.due("1 and 0s", y.run("100000000", false), 2);
        Checks.due("1, then a 1", y.run("100000001", false), -4);
        Checks.due("0 and 1s", y.run("011111111", false), 2);
        Checks.due("value", y.outBytes(), Checks.bits("000000000"));
        // inside of a pair
        House z = House.of("f = comp (pair iden unit) case (take left unit) (take right jet 92) a = pair take f drop f");
        Checks.due("both", z.run("000000000" + "111111111", false), 3);
        Checks.due("the first is none", z.run("000000001" + "111111111", false), -4);
        Checks.due("the second is none", z.run("111111111" + "000000001", false), -4);
    }

    private static void noBits() {
        House x = House.of("a = unit");
        Checks.due("none", x.run(1, 1, false), 0);
        Checks.due("OUT", x.look(8), 0);
        x.feed(1, 0);
        Checks.due("a byte", x.run(1, 1, false), -4);
        x.feed(8, 0);
        Checks.due("eight bytes", x.run(1, 1, true), -4);
    }

    private static void steps() {
        House x = House.of("a = jet 0");
        Checks.due("steps", x.look(5), 26);
        for (boolean defined : new boolean[] {false, true}) {
            x.feed(2, 0);
            Checks.due("one less", x.run(25, 1000, defined), -2);
            Checks.due("tape", x.look(7), 0);
            x.feed(2, 0);
            Checks.due("as told", x.run(26, 1000, defined), 2);
            x.feed(2, 0);
            Checks.due("one more", x.run(27, 1000, defined), 2);
            x.feed(2, 0);
            Checks.due("1", x.run(1, 1000, defined), -2);
        }
    }

    private static void cells() {
        House x = House.of("a = jet 0");
        Checks.due("cells", x.look(3), 25);
        for (boolean defined : new boolean[] {false, true}) {
            x.feed(2, 0);
            Checks.due("one less", x.run(1000, 24, defined), -2);
            x.feed(2, 0);
            Checks.due("as told", x.run(1000, 25, defined), 2);
            x.feed(2, 0);
            Checks.due("1", x.run(1000, 1, defined), -2);
        }
        House y = House.of("a = comp jet 0 (comp (drop jet 92) jet 92)");
        Checks.due("cells", y.look(3), 16 + 8 + 9 + 8);
        y.feed(2, 0);
        Checks.due("as told", y.run(1000, 41, false), 1);
        y.feed(2, 0);
        Checks.due("one less", y.run(1000, 40, false), -2);
        y.feed(2, 0);
        Checks.due("both too few", y.run(1, 1, false), -2);
    }

    private static void byBounds() {
        // the left child needs 2 steps, the right one 18; the left one is worked
        House x = House.of("a = comp (pair iden unit) case (take unit) (take comp jet 92 unit)");
        int bound = x.look(5);
        x.putBits("000000000");
        Checks.due("as told", x.run(bound, 1000, false), 0);
        int used = x.look(13);
        Checks.due("it has used less", used < bound);
        x.putBits("000000000");
        Checks.due("as used", x.run(used, 1000, false), -2);
        x.putBits("000000000");
        Checks.due("one below the bound", x.run(bound - 1, 1000, false), -2);
        int cells = x.look(11);
        Checks.due("fewer cells", cells < x.look(3));
        x.putBits("000000000");
        Checks.due("cells as used", x.run(1000, cells, false), -2);
        x.putBits("000000000");
        Checks.due("cells of the bound", x.run(1000, x.look(3), false), 0);
    }

    private static void million() {
        House x = House.ofBits(Rows.steps(1000000));
        Checks.due("steps", x.look(5), 1000000);
        Checks.due("run", x.run(1000000, 1, false), 0);
        Checks.due("used", x.look(13), 1000000);
        Checks.due("run defined", x.run(MOST, MOST, true), 0);
        Checks.due("one less", x.run(999999, 1, false), -2);
        House y = House.ofBits(Rows.steps(1000001));
        Checks.due("steps", y.look(5), 1000001);
        Checks.due("one more", y.run(1000001, MOST, false), -2);
        Checks.due("most", y.run(MOST, MOST, false), -2);
        Checks.due("most, defined", y.run(MOST, MOST, true), -2);
        Checks.due("runs", y.look(10), 0);
        House z = House.ofBits(Rows.steps(999999));
        Checks.due("one less", z.run(999999, 1, false), 0);
        Checks.due("used", z.look(13), 999999);
    }

    private static void cutBounds() {
        House x = House.ofBits(Bits.program(Rows.pairNodes(100)));
        Checks.due("steps", x.look(5), MOST);
        Checks.due("run", x.run(MOST, MOST, false), -2);
        Checks.due("run", x.run(MOST, MOST, true), -2);
        House y = House.ofBits(Bits.program(Rows.pairNodes(400)));
        Checks.due("run", y.run(MOST, MOST, false), -2);
        y.feed(1, 0);
        Checks.due("no value", y.run(MOST, MOST, false), -4);
    }

    private static void fails() {
        String[] speeches = {"a = fail", "a = comp fail unit", "a = comp unit fail", "a = pair fail unit",
            "a = pair unit fail", "a = left fail", "a = right fail", "a = take fail", "a = drop fail"};
        for (String speech : speeches) {
            House x = House.of(speech);
            Checks.due(speech, x.run(100, 100, false), -1);
            Checks.due(speech + " defined", x.run(100, 100, true), -1);
            Checks.due("runs", x.look(10), 0);
        }
        // the other child is the one that fails
        House x = House.of("a = comp (pair iden unit) case (take unit) (take fail)");
        Checks.due("left", x.run("0", false), 0);
        Checks.due("right", x.run("1", false), -1);
        House y = House.of("a = comp (pair iden unit) case (take fail) (take unit)");
        Checks.due("left", y.run("0", true), -1);
        Checks.due("right", y.run("1", true), 0);
    }

    private static void hidden() {
        House x = House.of("a = comp (pair iden unit) case (take left unit) " + HIDDEN);
        Checks.due("left", x.run("0", false), 1);
        Checks.due("right", x.run("1", false), -1);
        Checks.due("right, defined", x.run("1", true), -1);
        House y = House.of("a = comp (pair iden unit) case " + HIDDEN + " (take right unit)");
        Checks.due("left", y.run("0", false), -1);
        Checks.due("left, defined", y.run("0", true), -1);
        Checks.due("right", y.run("1", false), 1);
        Checks.due("value", y.out(0), 0x80);
        Checks.due("runs", y.look(10), 1);
    }

    private static void order() {
        House x = House.of("a = comp jet 92 fail");
        x.feed(2, 0);
        Checks.due("all three", x.run(1, 1, false), -4);
        x.feed(1, 0);
        Checks.due("too few, and fails", x.run(1, 1, false), -2);
        x.feed(1, 0);
        Checks.due("too few cells, and fails", x.run(1000, 1, false), -2);
        x.feed(1, 0);
        Checks.due("fails", x.run(1000, 1000, false), -1);
        House y = House.ofBits(Rows.steps(1000001));
        y.feed(1, 0);
        Checks.due("too many, and no value", y.run(MOST, MOST, false), -4);
    }

    private static void leaves() {
        House x = House.of("a = comp jet 92 (comp (pair jet 76 iden) case (drop iden) fail)");
        x.feed(1, 0x0f);
        Checks.due("run", x.run(1000, 1000, false), 1);
        Checks.due("OUT", x.out(0), 0xf0);
        String before = x.state();
        x.feed(2, 0);
        Checks.due("no value", x.run(1000, 1000, false), -4);
        Checks.due("state", x.state(), before);
        x.feed(1, 0);
        Checks.due("too few", x.run(1, 1000, false), -2);
        Checks.due("state", x.state(), before);
        x.feed(1, 0xff);
        Checks.due("fails", x.run(1000, 1000, false), -1);
        Checks.due("state", x.state(), before);
        x.feed(1, 0xff);
        Checks.due("fails, defined", x.run(1000, 1000, true), -1);
        Checks.due("state", x.state(), before);
        x.feed(1, 0x55);
        Checks.due("and works again", x.run(1000, 1000, false), 1);
        Checks.due("OUT", x.out(0), 0xaa);
    }

    private static void ends() {
        int[] widths = {0, 1, 2, 3, 4, 5, 6, 7, 8, 9, 15, 16, 17, 63, 64, 65, 127, 128, 129};
        for (int wide : widths) {
            StringBuilder s = new StringBuilder("b = right unit x0 = unit ");
            for (int i = 1; i <= wide; i++) {
                s.append("x").append(i).append(" = pair b x").append(i - 1).append(" ");
            }
            House x = House.of(s.toString());
            Checks.due("width", x.look(2), wide);
            Checks.due("run", x.run(100000, 100000, false), (wide + 7) / 8);
            Checks.due("OUT", x.look(8), (wide + 7) / 8);
            Checks.due("value", x.outBytes(), Checks.bits("1".repeat(wide)));
        }
    }

    private static void combinators() {
        House pair = House.of("n = jet 92 a = pair (take n) (drop iden) b = comp (pair jet 120 jet 124) a");
        Checks.due("pair, take, drop", pair.run(1000, 1000, false), 2);
        Checks.due("value", pair.outBytes(), Checks.bits("1111111111111111"));
        House swap = House.of("a = comp jet 28 (comp (pair (drop iden) (take iden)) jet 100)");
        Checks.due("width", swap.look(1), 16);
        swap.feed(2, 0x1110);
        Checks.due("16 * 17 is 1, 16", swap.run(1000, 1000, false), 1);
        Checks.due("1 or 16", swap.out(0), 17);
        House iden = House.of("a = comp jet 92 iden");
        iden.feed(1, 0x3c);
        Checks.due("iden", iden.run(1000, 1000, false), 1);
        Checks.due("value", iden.out(0), 0xc3);
        // CASE gives its children the part and what stands behind the sum
        House both = House.of("a = case (pair (take jet 92) (drop iden)) (pair (drop iden) (take jet 92))");
        Checks.due("left", both.run("0" + "00001111" + "01010101", false), 2);
        Checks.due("value", both.outBytes(), Checks.bits("11110000" + "01010101"));
        Checks.due("right", both.run("1" + "00001111" + "01010101", false), 2);
        Checks.due("value", both.outBytes(), Checks.bits("01010101" + "11110000"));
        House comp = House.of("a = comp jet 16 (comp (drop jet 16) (drop jet 92))");
        comp.feed(1, 7);
        Checks.due("comp", comp.run(1000, 1000, false), 1);
        Checks.due("value", comp.out(0), 255 - 9);
    }

    /** Sums of parts that are not as wide as one another. */
    private static void zerosBetween() {
        House left = House.of("a = left jet 92");
        Checks.due("LEFT of what is open", left.look(2), 9);
        left.feed(1, 0x0f);
        Checks.due("run", left.run(1000, 1000, false), 2);
        Checks.due("value", left.outBytes(), Checks.bits("0" + "11110000"));
        // LEFT of WORD 8 in WORD 8 + WORD 64, and RIGHT of WORD 8 in WORD 64 + WORD 8
        House sum = House.of("f = comp (pair iden unit) case (take left jet 92) (take right jet 95) "
                + "a = comp (left jet 92) f");
        Checks.due("width", sum.look(2), 65);
        sum.feed(1, 0x0f);
        Checks.due("run", sum.run(1000, 1000, false), 9);
        Checks.due("value", sum.outBytes(), Checks.bits("0" + "0".repeat(56) + "00001111"));
        House other = House.of("f = comp (pair iden unit) case (take left jet 95) (take right jet 92) "
                + "a = comp (right jet 92) f");
        other.feed(1, 0x0f);
        Checks.due("run", other.run(1000, 1000, false), 9);
        Checks.due("value", other.outBytes(), Checks.bits("1" + "0".repeat(56) + "00001111"));
        // cells that were full before are 0 between: the second run's row has 1s where 0s come
        House again = House.of("f = comp (pair iden unit) case (take left jet 95) (take right jet 92)");
        Checks.due("run", again.run("0" + "0".repeat(64), false), 9);
        Checks.due("value", again.outBytes(), Checks.bits("0" + "1".repeat(64)));
        Checks.due("run", again.run("1" + "0".repeat(56) + "11111111", false), 9);
        Checks.due("value", again.outBytes(), Checks.bits("1" + "0".repeat(64)));
        Checks.due("run", again.run("1" + "0".repeat(56) + "00000000", true), 9);
        Checks.due("value", again.outBytes(), Checks.bits("1" + "0".repeat(56) + "11111111"));
    }

    /** An E from so many bits, and from no more general type, to ONE. */
    private static String force(int bits) {
        if (bits == 1) {
            return "comp (pair iden unit) case unit unit";
        }
        for (int jet = 95, wide = 64; jet >= 92; jet--, wide /= 2) {
            if (bits == wide) {
                return "comp jet " + jet + " unit";
            }
            if (bits > wide) {
                return "comp (pair take (comp jet " + jet + " unit) drop (" + force(bits - wide) + ")) unit";
            }
        }
        return "comp (pair take (" + force(1) + ") drop (" + force(bits - 1) + ")) unit";
    }

    private static final int[] LENGTHS = {1, 2, 3, 7, 8, 9, 30, 31, 32, 33, 34, 56, 57, 62, 63, 64, 65, 66, 67, 95, 97, 126, 127,
        128, 129, 130, 191, 192, 193};

    /** A bit that is inverted, beside so many bits in a sum, on the left and on the right. */
    private static void manyZeros() {
        String not = "n = comp (pair iden unit) case (right unit) (left unit) ";
        for (int bits : LENGTHS) {
            String zeros = "0".repeat(bits - 1);
            House left = House.of(not + "s = comp (pair iden unit) case (take " + force(1) + ") (take " + force(bits) + ") "
                    + "a = comp (comp n left iden) comp (pair iden s) take iden");
            Checks.due("width", left.look(2), 1 + bits);
            for (String bit : new String[] {"0", "1"}) {
                String other = bit.equals("0") ? "1" : "0";
                Checks.due("run", left.run(bit, false), (8 + bits) / 8);
                Checks.due("left of " + bits, left.outBytes(), Checks.bits("0" + zeros + other));
            }
            House right = House.of(not + "s = comp (pair iden unit) case (take " + force(bits) + ") (take " + force(1) + ") "
                    + "a = comp (comp n right iden) comp (pair iden s) take iden");
            for (String bit : new String[] {"0", "1"}) {
                String other = bit.equals("0") ? "1" : "0";
                Checks.due("run", right.run(bit, false), (8 + bits) / 8);
                Checks.due("right of " + bits, right.outBytes(), Checks.bits("1" + zeros + other));
            }
        }
    }

    /** A wide part of 1s leaves no 1s where a short part has 0s ahead of it. */
    private static void staleOnes() {
        for (int bits : LENGTHS) {
            String force = "s = comp (pair iden unit) case (take " + force(1) + ") (take " + force(bits) + ") ";
            String same = "f = comp (pair iden unit) case (take left iden) (take right iden) ";
            House x = House.of(force + same + "a = comp f comp (pair iden s) comp take iden new f");
            for (boolean defined : new boolean[] {false, true}) {
                for (String in : new String[] {"1" + "1".repeat(bits), "0" + "0".repeat(bits - 1) + "1", "1" + "1".repeat(bits),
                    "0" + "0".repeat(bits), "1" + "0".repeat(bits)}) {
                    Checks.due("run", x.run(in, defined), (in.length() + 7) / 8);
                    Checks.due("value", x.outBytes(), Checks.bits(in));
                }
            }
        }
    }

    /** Two rows that change their places, and a witness between them. */
    private static void manyLengths() {
        java.util.Random random = new java.util.Random(41);
        for (int one : LENGTHS) {
            for (int two : new int[] {1, 5, 63, 64, 65, 100}) {
                String a = row(random, one);
                String b = row(random, two);
                String w = row(random, one);
                House x = House.of("f = " + force(one) + " g = " + force(two) + " v = comp (pair iden f) take iden "
                        + "s = pair (drop comp (pair iden g) take iden) (pair (comp witness " + w + " v) take v)");
                Checks.due("source", x.look(1), one + two);
                Checks.due("run", x.run(a + b, false), (two + 2 * one + 7) / 8);
                Checks.due("value", x.outBytes(), Checks.bits(b + w + a));
            }
        }
    }

    private static String row(java.util.Random random, int bits) {
        StringBuilder s = new StringBuilder();
        for (int i = 0; i < bits; i++) {
            s.append(random.nextInt(2));
        }
        return s.toString();
    }

    private static void witnesses() {
        House x = House.of("n = jet 92 a = comp witness 00000001 n b = comp witness 00000010 n c = pair (pair b a) "
                + "pair a comp witness 11111111 n");
        Checks.due("bits", x.look(6), 24);
        Checks.due("run", x.run(1000, 1000, false), 4);
        Checks.due("value", x.outBytes(), Checks.bits("11111101" + "11111110" + "11111110" + "00000000"));
        // short ones ahead of a bit that is read behind them
        String not = "n = comp (pair iden unit) case (right unit) (left unit) ";
        for (int bits : LENGTHS) {
            for (String row : new String[] {"0".repeat(bits), "1".repeat(bits)}) {
                House y = House.of(not + "g = comp (pair iden pair take (" + force(bits) + ") drop " + force(1)
                        + ") take iden a = comp (comp n pair witness " + row + " iden) g");
                Checks.due("run", y.run("0", false), bits / 8 + 1);
                Checks.due("value", y.outBytes(), Checks.bits(row + "1"));
                Checks.due("run", y.run("1", false), bits / 8 + 1);
                Checks.due("value", y.outBytes(), Checks.bits(row + "0"));
            }
        }
        House wide = House.of("a = comp witness " + "01".repeat(32) + " jet 95 b = comp witness " + "1".repeat(32)
                + " jet 94 c = pair a b");
        Checks.due("run", wide.run(1000, 1000, true), 12);
        Checks.due("value", wide.outBytes(), Checks.bits("10".repeat(32) + "0".repeat(32)));
    }

    private static void widest() {
        StringBuilder s = new StringBuilder("f0 = jet 95 ");
        for (int i = 1; i <= 5; i++) {
            s.append("f").append(i).append(" = pair take f").append(i - 1).append(" drop f").append(i - 1).append(" ");
        }
        House x = House.of(s.toString());
        String in = ("0".repeat(67) + "1".repeat(61)).repeat(16);
        Checks.due("run", x.run(in, false), 256);
        Checks.due("value", x.outBytes(), Checks.bits(("1".repeat(67) + "0".repeat(61)).repeat(16)));
        Checks.due("a byte more", x.run(in + "00000000", false), -4);
        Checks.due("a byte less", x.run(in.substring(8), false), -4);
    }

    /** 393 COMPs, one in the other, of 2048 bits each. */
    private static void deepest() {
        String[] told = new String[400];
        told[0] = "12 127";
        for (int i = 1; i <= 5; i++) {
            told[i] = "2 1 1";
        }
        told[6] = "7";
        told[7] = "0 2 1";
        for (int i = 8; i < 400; i++) {
            told[i] = "0 1 " + (i - 6);
        }
        House x = House.ofBits(Bits.program(told));
        Checks.due("cells", x.look(3), 393 * 2048 + 2048);
        Checks.due("frames", x.look(4), 395);
        Checks.due("one cell less", x.run(1000000, 394 * 2048 - 1, false), -2);
        Checks.due("run", x.run(1000000, 394 * 2048, false), 256);
        Checks.due("used cells", x.look(11), 394 * 2048);
        Checks.due("used frames", x.look(12), 395);
        Checks.due("first bytes", x.out(0), -1);
        Checks.due("last bytes", x.out(248), -1);
        Checks.due("defined", x.run(1000000, 394 * 2048, true), 256);
        Checks.due("last bytes", x.out(248), -1);
    }

    private static void defined() {
        House x = House.of("a = comp jet 28 (comp jet 0 drop jet 92)");
        for (int i = 0; i < 256; i += 51) {
            x.feed(2, i << 8 | 0x9d);
            Checks.due("run", x.run(1000, 1000, false), 1);
            long direct = x.out(0);
            Checks.due("value", direct, 255 - (i * 0x9d / 256 + i * 0x9d % 256) % 256);
            x.feed(2, i << 8 | 0x9d);
            Checks.due("run defined", x.run(1000, 1000, true), 1);
            Checks.due("the same", x.out(0), direct);
        }
        Checks.due("runs", x.look(10), 12);
    }
}

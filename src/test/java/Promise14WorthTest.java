import java.util.NoSuchElementException;

/** Promise 14: the value whose text the tape is. */
public final class Promise14WorthTest {
    private Promise14WorthTest() {
    }

    public static void main(String[] args) {
        Checks.test("promise 14: no such node", Promise14WorthTest::noNode);
        Checks.test("promise 14: -2 for a HIDDEN node", Promise14WorthTest::hidden);
        Checks.test("promise 14: ONE", Promise14WorthTest::ones);
        Checks.test("promise 14: BIT", Promise14WorthTest::bits);
        Checks.test("promise 14: WORD 4, 8 up to 2048", Promise14WorthTest::words);
        Checks.test("promise 14: WORD 2 and others that are none", Promise14WorthTest::pairs);
        Checks.test("promise 14: sums", Promise14WorthTest::sums);
        Checks.test("promise 14: just the text, nothing ahead, behind or missing", Promise14WorthTest::just);
        Checks.test("promise 14: each byte counts", Promise14WorthTest::eachByte);
        Checks.test("promise 14: the value, and 0s up to a byte's end", Promise14WorthTest::ends);
        Checks.test("promise 14: source and target", Promise14WorthTest::sides);
        Checks.test("promise 14: 8192 bytes", Promise14WorthTest::longest);
        Checks.test("promise 14: types whose text has no room", Promise14WorthTest::vast);
        Checks.test("promise 14: what it leaves", Promise14WorthTest::leaves);
        Checks.end();
    }

    private static void due(House x, int i, String text, String bits) {
        x.put(text);
        Checks.due("worth " + Checks.shown(text), x.worth(i, true), (bits.length() + 7) / 8);
        Checks.due("value of " + Checks.shown(text), x.outBytes(), Checks.bits(bits));
        Checks.due("tape", x.look(7), 0);
    }

    private static House none(House x, String again, int i, String... texts) {
        House y = x;
        for (String text : texts) {
            if (y.left() < 120) {
                y = House.of(again);
            }
            y.put(text);
            Checks.due("worth " + Checks.shown(text), y.worth(i, true), -4);
            Checks.due("tape", y.look(7), 0);
        }
        return y;
    }

    private static void noNode() {
        House x = House.ofBits(Bits.program("8", "3 1", "3 1"));
        x.put("1");
        for (int i : new int[] {-1, 3, 4, 400, Integer.MAX_VALUE, Integer.MIN_VALUE}) {
            Checks.dueThrows("source of " + i, NoSuchElementException.class, () -> x.worth(i, false));
            Checks.dueThrows("target of " + i, NoSuchElementException.class, () -> x.worth(i, true));
        }
        Checks.dueRefused("worth of 3", x, NoSuchElementException.class, () -> x.worth(3, true));
        Checks.due("the tape as it was", x.worth(1, true), 1);
        House y = new House();
        y.feed(1, 32);
        Checks.dueRefused("without a program", y, NoSuchElementException.class, () -> y.worth(0, true));
        Checks.due("the tape as it was", y.load(), 0);
    }

    private static void hidden() {
        House x = House.ofBits(Bits.program("8", "11", "1 2 1"));
        for (String text : new String[] {"", "U", "0", "x"}) {
            x.put(text);
            Checks.due("source", x.worth(1, false), -2);
            Checks.due("tape", x.look(7), 0);
            x.put(text);
            Checks.due("target", x.worth(1, true), -2);
        }
        Checks.due("OUT", x.look(8), 0);
    }

    private static void ones() {
        House x = House.of("a = pair unit unit");
        due(x, 0, "U", "");
        due(x, 1, "(U,U)", "");
        none(x, "a = pair unit unit", 0, "", "u", "UU", "0", "1", "(U,U)", "#", "L", "R", " U", "U ", "U\n");
        none(x, "a = pair unit unit", 1, "", "U", "(U,U", "U,U)", "(U U)", "(U,U))", "((U,U)", "(,)", "()", "(U,)", "(U)");
    }

    private static void bits() {
        House x = House.of("a = left unit");
        due(x, 1, "0", "0");
        due(x, 1, "1", "1");
        none(x, "a = left unit", 1, "", "2", "/", "U", "L", "LU", "RU", "00", "01", "#0", "#1", "10", " 1", "1 ");
        none(x, "a = left unit", 0, "0", "1");
    }

    private static void words() {
        String[] told = new String[13];
        told[0] = "8";
        told[1] = "3 1";
        for (int i = 2; i < 13; i++) {
            told[i] = "2 1 1";
        }
        for (int i = 3; i < 13; i++) {
            House x = House.ofBits(Bits.program(told));
            int digits = 1 << i - 3;
            due(x, i, "#" + "0".repeat(digits), "0000".repeat(digits));
            due(x, i, "#" + "f".repeat(digits), "1111".repeat(digits));
            House y = House.ofBits(Bits.program(told));
            String middle = "0123456789abcdef".repeat(32).substring(0, digits - 1);
            StringBuilder bits = new StringBuilder();
            for (char c : middle.toCharArray()) {
                bits.append(Bits.number(Character.digit(c, 16), 4));
            }
            due(y, i, "#" + middle + "9", bits + "1001");
            House z = House.ofBits(Bits.program(told));
            for (String text : new String[] {"#" + "0".repeat(digits - 1), "#" + "0".repeat(digits + 1), "0".repeat(digits),
                "#" + "0".repeat(digits - 1) + "g", "#" + "0".repeat(digits - 1) + "F", "##" + "0".repeat(digits - 1)}) {
                if (z.left() < 80) {
                    z = House.ofBits(Bits.program(told));
                }
                z.put(text);
                Checks.due("worth " + Checks.shown(text), z.worth(i, true), -4);
            }
        }
        String four = "b = left unit c = pair b b a = pair c c";
        House x = House.of(four);
        for (int i = 0; i < 16; i++) {
            due(x, 3, "#" + "0123456789abcdef".charAt(i), Bits.number(i, 4));
        }
        none(House.of(four), four, 3, "#", "#00", "0", "#A", "#F", "#g", "#G", "#/", "#:", "#`", "#@", "# ", "((0,0),(0,0))");
    }

    private static void pairs() {
        String two = "b = left unit a = pair b b";
        House x = House.of(two);
        due(x, 2, "(0,1)", "01");
        due(x, 2, "(1,0)", "10");
        none(x, two, 2, "#1", "#0", "01", "(01)", "(0,1", "(0;1)", "(2,0)", "(0,2)", "(0, 1)", "[0,1]", "(0,1) ", "(U,U)");
        String other = "b = left unit c = pair b b a = pair c pair c c";
        House y = House.of(other);
        due(y, 4, "((1,0),#9)", "101001");
        String third = "b = left unit c = pair b b a = pair (pair c c) pair jet 120 unit";
        House z = House.of(third);
        int last = z.look(0) - 1;
        due(z, last, "(#a,(#bc,U))", "101010111100");
        none(z, third, last, "(#ab,U))", "(#ab,(#cd,U))", "(#a,#bc,U)", "(#a,(#b,U))", "(#a,(#bcd,U))", "#abc", "(#abc,U)");
        none(y, other, 4, "((1,0),((1,0),(0,1)))", "(#2,#9)", "#29", "((1,0),9)", "((1,0)#9)");
    }

    private static void sums() {
        String either = "a = left jet 120";
        House x = House.of(either);
        due(x, 1, "L#f0", "011110000");
        due(x, 1, "RU", "100000000");
        none(x, either, 1, "", "L", "R", "LU", "R#f0", "L#f", "L#f00", "l#f0", "rU", "Ru", "RUU", "RU ", "0", "1", "#f0", "U");
        String deep = "a = right left unit";
        House y = House.of(deep);
        due(y, 2, "LU", "00");
        due(y, 2, "R0", "10");
        due(y, 2, "R1", "11");
        none(y, deep, 2, "L0", "RU", "RLU", "RRU", "0", "1", "R2", "R", "L", "R01");
    }

    private static void just() {
        String speech = "b = left unit t = pair b b a = pair t (pair jet 120 (right b))";
        House x = House.of(speech);
        int last = x.look(0) - 1;
        String text = "((0,1),(#0f,R0))";
        due(x, last, text, "01" + "00001111" + "10");
        String[] bad = new String[text.length() + 8];
        for (int i = 0; i < text.length(); i++) {
            bad[i] = text.substring(0, i);
        }
        bad[text.length()] = text + ")";
        bad[text.length() + 1] = text + "0";
        bad[text.length() + 2] = text + "\n";
        bad[text.length() + 3] = text + "\u0000";
        bad[text.length() + 4] = " " + text;
        bad[text.length() + 5] = "(" + text;
        bad[text.length() + 6] = text + text;
        bad[text.length() + 7] = text.substring(1);
        none(x, speech, last, bad);
    }

    /** Each byte of a text is put in the place of each byte: it is another value's text, or none. */
    private static void eachByte() {
        String speech = "b = left unit t = pair b b a = pair t (pair jet 120 (right b))";
        House x = House.of(speech);
        int last = x.look(0) - 1;
        String text = "((0,1),(#0f,R0))";
        for (int i = 0; i < text.length(); i++) {
            for (int b : new int[] {0, 10, 32, '#', '(', ')', ',', '/', '0', '1', '2', '9', ':', 'A', 'L', 'R', 'U', '`', 'a',
                'f', 'g', 127, 128, 255}) {
                String other = text.substring(0, i) + (char) b + text.substring(i + 1);
                boolean bit = (i == 2 || i == 4 || i == 13) && (b == '0' || b == '1');
                boolean digit = (i == 9 || i == 10) && (b >= '0' && b <= '9' || b >= 'a' && b <= 'f');
                boolean good = b == text.charAt(i) || bit || digit;
                if (x.left() < 10) {
                    x = House.of(speech);
                }
                x.put(other);
                Checks.due("worth " + other, x.worth(last, true), good ? 2 : -4);
            }
        }
    }

    private static void ends() {
        for (int wide : new int[] {1, 2, 3, 7, 8, 9, 15, 16, 17, 33}) {
            StringBuilder s = new StringBuilder("b = right unit x1 = b ");
            StringBuilder text = new StringBuilder("1");
            for (int i = 2; i <= wide; i++) {
                s.append("x").append(i).append(" = pair x").append(i - 1).append(" left b ");
                text.insert(0, "(").append(",L1)");
            }
            House x = House.of(s.toString());
            int last = x.look(0) - 1;
            Checks.due("width", x.look(2), 2 * wide - 1);
            due(x, last, text.toString(), "1" + "01".repeat(wide - 1));
        }
    }

    private static void sides() {
        House x = House.of("a = jet 4");
        x.put("(1,#0102)");
        Checks.due("source", x.worth(0, false), 3);
        Checks.due("value", x.outBytes(), Checks.bits("1" + "00000001" + "00000010"));
        x.put("(0,#01)");
        Checks.due("target", x.worth(0, true), 2);
        Checks.due("value", x.outBytes(), Checks.bits("0" + "00000001"));
        x.put("(0,#01)");
        Checks.due("the other side", x.worth(0, false), -4);
        x.put("(1,#0102)");
        Checks.due("the other side", x.worth(0, true), -4);
    }

    private static void longest() {
        String[] told = java.util.Arrays.copyOf(Rows.pairNodes(13), 17);
        told[12] = "3 1";
        told[13] = "3 1";
        told[14] = "3 1";
        told[15] = "3 1";
        told[16] = "3 1";
        House x = House.ofBits(Bits.program(told));
        for (int lefts = 0; lefts <= 3; lefts++) {
            int i = 11 + lefts;
            x.put(new byte[(lefts + 7) / 8]);
            Checks.due("value", x.value(i, true), 8189 + lefts);
            Checks.due("again", x.again(), 8189 + lefts);
            Checks.due("worth", x.worth(i, true), (lefts + 7) / 8);
            Checks.due("tape", x.look(7), 0);
            x.put(new byte[(lefts + 7) / 8]);
            x.value(i, true);
            x.again();
            Checks.due("of the one below", x.worth(i - 1, true), -4);
            x.put(new byte[(lefts + 7) / 8]);
            x.value(i, true);
            x.again();
            Checks.due("of the one above", x.worth(i + 1, true), -4);
        }
        x.value(11, true);
        x.again();
        x.feed(1, ')');
        Checks.due("one byte more", x.worth(11, true), -4);
        x.put(Checks.bits("000"));
        x.value(14, true);
        x.again();
        Checks.due("all 8192 bytes", x.worth(14, true), 1);
        Checks.due("value", x.out(0), 0);
    }

    private static void vast() {
        House x = House.ofBits(Bits.program(Rows.pairNodes(400)));
        for (int i : new int[] {12, 13, 29, 30, 31, 32, 33, 62, 63, 64, 399}) {
            x.put("(U,U)");
            Checks.due("worth of " + i, x.worth(i, true), -4);
            Checks.due("nothing of " + i, x.worth(i, true), -4);
            x.value(11, true);
            x.again();
            Checks.due("a long text of " + i, x.worth(i, true), -4);
            x.put("(".repeat(64) + "U");
            Checks.due("brackets of " + i, x.worth(i, true), -4);
        }
        x.put("(U,U)");
        Checks.due("worth", x.worth(1, true), 0);
    }

    private static void leaves() {
        House x = House.of("a = case (take jet 92) hidden " + "0".repeat(64));
        int last = x.look(0) - 1;
        x.put("#07");
        Checks.due("worth", x.worth(0, true), 1);
        String before = x.state();
        for (String text : new String[] {"#0", "#077", "#0g", "#", "", "U"}) {
            x.put(text);
            Checks.due("none", x.worth(0, true), -4);
            Checks.due("state", x.state(), before);
        }
        x.put("#07");
        Checks.due("HIDDEN", x.worth(last - 1, true), -2);
        Checks.due("state", x.state(), before);
        x.put("#f9");
        Checks.due("worth", x.worth(0, true), 1);
        Checks.due("value", x.out(0), 0xf9);
    }
}

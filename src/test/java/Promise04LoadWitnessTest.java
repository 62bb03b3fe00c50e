import java.util.Arrays;

/** Promise 4: the witness and what follows: the errors 1, 4, 10, 11, 12; and what load leaves. */
public final class Promise04LoadWitnessTest {
    private static final String[] EIGHT = {"10", "12 92", "0 2 1"};
    /** A WITNESS of ONE + WORD 8: a 0 and eight 0s, or a 1 and any eight bits. */
    private static final String[] EITHER = {"10", "7", "8", "2 2 1", "8", "5 1", "12 92", "8", "0 2 1", "5 1", "1 5 1",
        "0 8 1", "0 12 1"};

    private Promise04LoadWitnessTest() {
    }

    public static void main(String[] args) {
        Checks.test("promise 4: error 1, W's natural ends", Promise04LoadWitnessTest::endOfLength);
        Checks.test("promise 4: error 1, the witness's bits end", Promise04LoadWitnessTest::endOfBits);
        Checks.test("promise 4: error 4, W's natural above 65535", Promise04LoadWitnessTest::tooLong);
        Checks.test("promise 4: error 10, W is not the sum of widths", Promise04LoadWitnessTest::notTheSum);
        Checks.test("promise 4: error 10, several WITNESS nodes", Promise04LoadWitnessTest::severalWidths);
        Checks.test("promise 4: error 11, the witness bits are no values", Promise04LoadWitnessTest::noValues);
        Checks.test("promise 4: error 11, those of each in order", Promise04LoadWitnessTest::inOrder);
        Checks.test("promise 4: error 12, fewer than eight bits follow", Promise04LoadWitnessTest::fewerThanEight);
        Checks.test("promise 4: error 12, all 0", Promise04LoadWitnessTest::allZero);
        Checks.test("promise 4: 1 and 4 ahead of 10, 10 ahead of 11, 11 ahead of 12", Promise04LoadWitnessTest::ahead);
        Checks.test("promise 4: the tape is used up", Promise04LoadWitnessTest::usedUp);
        Checks.test("promise 4: with an error the program stays", Promise04LoadWitnessTest::stays);
        Checks.test("promise 4: without one the program is the new one", Promise04LoadWitnessTest::isNew);
        Checks.test("promise 4: again and again", Promise04LoadWitnessTest::againAndAgain);
        Checks.test("promise 4: a witness of 2048 bits", Promise04LoadWitnessTest::widest);
        Checks.end();
    }

    private static String pad(String bits, String filler) {
        StringBuilder s = new StringBuilder(bits);
        while (s.length() % 8 != 0) {
            s.append(filler);
        }
        return s.toString();
    }

    /** As many pairs of UNIT ahead as make the nodes end at a byte, or so many bits behind it. */
    private static String aligned(int behind) {
        for (int more = 0; more < 16; more++) {
            String[] told = new String[2 + more];
            told[0] = "8";
            for (int i = 1; i <= more; i++) {
                told[i] = "2 1 1";
            }
            told[1 + more] = "3 1";
            String s = Bits.nodes(told);
            if (s.length() % 8 == behind) {
                return s;
            }
        }
        return "";
    }

    private static void endOfLength() {
        Checks.due("a program that ends at a byte", aligned(0).length() > 0);
        Loads.due(aligned(0), 1);
        Loads.due(aligned(0) + "0", 0);
        Loads.due(aligned(7) + "1", 1);
        Loads.due(aligned(6) + "10", 1);
        Loads.due(aligned(6) + "11", 1);
        Loads.due(aligned(4) + "1100", 1);
        Loads.due(aligned(0) + "11111111", 1);
        Loads.due(aligned(7) + "0", 0);
    }

    private static void endOfBits() {
        // W is told, and a bit, or all of them, are missing: 9 is 1101001
        for (int behind = 0; behind < 8; behind++) {
            String nodes = aligned(behind);
            Loads.due(pad(nodes + Bits.natural(9), "0"), 1);
            for (int w = 1; w <= 20; w++) {
                String told = nodes + Bits.natural(w + 1);
                int whole = told.length() + w;
                byte[] bytes = Checks.bits(pad(told + "0".repeat(w), "0"));
                Loads.due(bytes, 10);
                if (whole % 8 == 1) {
                    Loads.due(Arrays.copyOf(bytes, bytes.length - 1), 1);
                }
            }
        }
        byte[] cut = Checks.bits(Bits.witnessed("00000000", EIGHT));
        for (int size = 0; size < cut.length; size++) {
            Loads.due(Arrays.copyOf(cut, size), 1);
        }
        Loads.due(Bits.nodes(EIGHT) + Bits.natural(65535), 1);
        Loads.due(Bits.nodes(EIGHT) + Bits.natural(65535) + "0".repeat(3000), 1);
    }

    private static void tooLong() {
        Loads.due(Bits.nodes(EIGHT) + "1" + Bits.natural(16), 4);
        Loads.due(Bits.nodes(EIGHT) + Bits.natural(65536) + "0".repeat(100), 4);
        Loads.due(Bits.nodes(EIGHT) + "11" + Bits.natural(16), 4);
        Loads.due(Bits.nodes(EIGHT) + "1".repeat(100) + "0".repeat(20), 4);
        Loads.due(Bits.nodes("8") + "1" + Bits.natural(16), 4);
        Loads.due(Bits.nodes("8") + "1" + Bits.natural(15), 1);
    }

    private static void notTheSum() {
        Loads.due(Bits.witnessed("00000000", EIGHT), 0);
        Loads.due(Bits.witnessed("0000000", EIGHT), 10);
        Loads.due(Bits.witnessed("000000000", EIGHT), 10);
        Loads.due(Bits.witnessed("", EIGHT), 10);
        Loads.due(Bits.witnessed("0", "8"), 10);
        Loads.due(Bits.witnessed("", "8"), 0);
        Loads.due(Bits.witnessed("0", "10"), 10);
        Loads.due(Bits.witnessed("", "10"), 0);
        Loads.due(Bits.witnessed("0", "10", "3 1"), 10);
        Loads.due(Bits.witnessed("0".repeat(16), EIGHT), 10);
    }

    private static void severalWidths() {
        String[] told = {"10", "12 92", "0 2 1", "10", "12 93", "0 2 1", "2 4 1"};
        Loads.due(Bits.witnessed("0".repeat(24), told), 0);
        Loads.due(Bits.witnessed("0".repeat(23), told), 10);
        Loads.due(Bits.witnessed("0".repeat(25), told), 10);
        Loads.due(Bits.witnessed("0".repeat(8), told), 10);
        Loads.due(Bits.witnessed("0".repeat(16), told), 10);
        House x = House.ofBits(Bits.witnessed("0".repeat(24), told));
        Checks.due("bits", x.look(6), 24);
        // a node that stands twice has its bits once
        String[] twice = {"10", "12 92", "0 2 1", "2 1 1"};
        Loads.due(Bits.witnessed("0".repeat(8), twice), 0);
        Loads.due(Bits.witnessed("0".repeat(16), twice), 10);
    }

    private static void noValues() {
        for (int i = 0; i < 256; i += 15) {
            Loads.due(Bits.witnessed("1" + Bits.number(i, 8), EITHER), 0);
            Loads.due(Bits.witnessed("0" + Bits.number(i, 8), EITHER), i == 0 ? 0 : 11);
        }
        Loads.due(Bits.witnessed("000000001", EITHER), 11);
        Loads.due(Bits.witnessed("010000000", EITHER), 11);
        Loads.due(Bits.witnessed("111111111", EITHER), 0);
        Loads.due(Bits.witnessed("11111111", EIGHT), 0);
    }

    private static void inOrder() {
        String[] told = Arrays.copyOf(EITHER, 16);
        told[13] = "10";
        told[14] = "0 1 3";
        told[15] = "2 3 1";
        Loads.due(Bits.witnessed("000000000" + "100000001", told), 0);
        Loads.due(Bits.witnessed("100000001" + "000000000", told), 0);
        Loads.due(Bits.witnessed("100000001" + "000000001", told), 11);
        Loads.due(Bits.witnessed("000000001" + "100000001", told), 11);
        House x = House.ofBits(Bits.witnessed("111110000" + "000000000", told));
        Checks.due("speak", x.speak() > 0);
        String speech = new String(x.outBytes(), java.nio.charset.StandardCharsets.ISO_8859_1);
        Checks.due("the first", speech.contains("n0 = witness 111110000\n"));
        Checks.due("the second", speech.contains("n13 = witness 000000000\n"));
    }

    private static void fewerThanEight() {
        for (int behind = 0; behind < 8; behind++) {
            String program = aligned(behind) + "0";
            byte[] bytes = Checks.bits(program);
            Loads.due(bytes, 0);
            Loads.due(Arrays.copyOf(bytes, bytes.length + 1), 12);
            Loads.due(Arrays.copyOf(bytes, bytes.length + 2), 12);
        }
        byte[] witness = Checks.bits(Bits.witnessed("00000000", EIGHT));
        Loads.due(Arrays.copyOf(witness, witness.length + 1), 12);
    }

    private static void allZero() {
        for (int behind = 0; behind < 8; behind++) {
            String program = aligned(behind) + "0";
            int rest = (8 - program.length() % 8) % 8;
            for (int i = 0; i < rest; i++) {
                Loads.due(program + "0".repeat(i) + "1" + "0".repeat(rest - 1 - i), 12);
            }
            if (rest > 0) {
                Loads.due(program + "1".repeat(rest), 12);
            }
            Loads.due(program + "0".repeat(rest) + "1", 12);
        }
        Loads.due(Bits.witnessed("00000000", EIGHT) + "1", 12);
    }

    private static void ahead() {
        // the bits end, and the sum is another one
        Loads.due(Bits.nodes(EIGHT) + Bits.natural(200) + "0".repeat(20), 1);
        Loads.due(Bits.nodes(EIGHT) + "1" + Bits.natural(16) + "0".repeat(20), 4);
        // no sum, no value, and 1s behind
        Loads.due(Bits.witnessed("0100000001", EITHER) + "1", 10);
        Loads.due(Bits.witnessed("01000000", EITHER) + "1", 10);
        Loads.due(Bits.witnessed("010000000", EITHER) + "1", 11);
        Loads.due(Bits.witnessed("010000000", EITHER) + "0".repeat(16), 11);
        Loads.due(Bits.witnessed("100000000", EITHER) + "1", 12);
        Loads.due(Bits.witnessed("0", "8") + "1", 10);
    }

    private static void usedUp() {
        House x = new House();
        for (String bits : new String[] {"", "1", Bits.program("8"), Bits.program("8", "7"), Bits.program("11"),
            Bits.witnessed("0", "8")}) {
            x.load(bits);
            Checks.due("tape", x.look(7), 0);
            Checks.due("load again", x.load(), 1);
        }
    }

    private static void stays() {
        House x = House.of("a = comp witness 00001111 jet 92");
        Checks.due("run", x.run(100, 100, false), 1);
        String[] bad = {"", "0" + "11111", Bits.program("3 1"), Bits.natural(401), Bits.program("8", "7"),
            Bits.program("11"), Bits.program("8", "12 0", "0 2 1"), Bits.program("12 123", "2 1 1", "2 1 1", "2 1 1",
                "2 1 1", "2 1 1", "2 1 1"), Bits.program("8", "8", "2 2 1"), Bits.witnessed("0", "8"),
            Bits.witnessed("000000001", EITHER), Bits.program("8") + "1"};
        int[] error = {1, 2, 3, 4, 5, 7, 8, 9, 6, 10, 11, 12};
        for (int i = 0; i < bad.length; i++) {
            String before = x.state();
            Checks.due("load", x.load(bad[i]), error[i]);
            Checks.due("error", x.look(9), error[i]);
            if (x.left() < 120) {
                x = House.of("a = comp witness 00001111 jet 92");
                Checks.due("run", x.run(100, 100, false), 1);
            } else {
                String[] was = before.split(" ");
                was[9] = "" + error[i];
                Checks.due("state", x.state(), String.join(" ", was));
            }
            Checks.due("run", x.run(100, 100, true), 1);
            Checks.due("OUT", x.out(0), 0xf0);
        }
    }

    private static void isNew() {
        House x = House.ofBits(Bits.witnessed("10000001", EIGHT));
        Checks.due("type", x.type(2, true) > 1);
        Checks.due("root", x.root(2, 0) != 0);
        Checks.due("load", x.load("1"), 1);
        Checks.due("load", x.load(Bits.program("9")), 0);
        Checks.due("error", x.look(9), 0);
        int[] want = {1, 0, 0, 0, 2, 1, 0};
        for (int i = 0; i < want.length; i++) {
            Checks.due("look " + i, x.look(i), want[i]);
        }
        Checks.due("code", x.node(0, 0), 9);
        Checks.due("root", x.root(0, 3), Oracle.leaf(9)[3] & 0xffffffffL);
        Checks.due("type's root", x.typeRoot(0, true, 3), Oracle.leaf(208)[3] & 0xffffffffL);
        Checks.dueThrows("node 1", java.util.NoSuchElementException.class, () -> x.node(1, 0));
        Checks.due("run", x.run(10, 10, false), -1);
        Checks.due("write", x.write(), 1);
        Checks.due("speak", x.speak(), 10);
        Checks.due("text", x.outBytes(), Checks.bytes("n0 = fail\n"));
    }

    /** Fifty HIDDEN nodes, loaded some hundred times: the last time is as the first. */
    private static void againAndAgain() {
        String[] told = new String[101];
        told[0] = "8";
        for (int i = 0; i < 50; i++) {
            told[2 * i + 1] = "11 " + (1000 + i);
            told[2 * i + 2] = "1 2 1";
        }
        House x = House.ofBits(Bits.program(told));
        long root = x.root(100, 0);
        int size = x.write();
        while (x.left() > 20) {
            x.again();
            Checks.due("load", x.load(), 0);
        }
        Checks.due("root", x.root(100, 0), root);
        Checks.due("a HIDDEN one", x.root(1, 7), 1000);
        Checks.due("the last HIDDEN one", x.root(99, 7), 1049);
        Checks.due("width", x.look(1), 50);
        Checks.due("write", x.write(), size);
        // by way of speeches
        House y = House.ofBits(Bits.program(told));
        size = y.look(8);
        while (y.left() > 20) {
            Checks.due("speak", y.speak() > 4000);
            y.again();
            Checks.due("say", y.say(), 0);
            y.again();
            Checks.due("load", y.load(), 0);
        }
        Checks.due("root", y.root(100, 0), root);
        Checks.due("the last HIDDEN one", y.root(99, 7), 1049);
    }

    private static void widest() {
        String row = "1" + "0".repeat(2046) + "1";
        House x = House.ofBits(Bits.witnessed(row, Rows.wideWitness(5)));
        Checks.due("bits", x.look(6), 2048);
        Checks.due("run", x.run(1000000, 1000000, false), 256);
        Checks.due("first", x.out(0), 0xffffffffffffff7fL);
        Checks.due("last", x.out(248), 0xfeffffffffffffffL);
        Loads.due(Bits.witnessed(row + "0", Rows.wideWitness(5)), 10);
        Loads.due(Bits.witnessed(row.substring(1), Rows.wideWitness(5)), 10);
    }
}

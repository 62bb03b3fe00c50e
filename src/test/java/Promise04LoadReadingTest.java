/** Promise 4: a row as a program: naturals, nodes, and the errors 1 to 4 of reading them. */
public final class Promise04LoadReadingTest {
    private Promise04LoadReadingTest() {
    }

    public static void main(String[] args) {
        Checks.test("promise 4: an empty tape", () -> Loads.due("", 1));
        Checks.test("promise 4: bits of a byte, the highest first", Promise04LoadReadingTest::bitOrder);
        Checks.test("promise 4: naturals", Promise04LoadReadingTest::naturals);
        Checks.test("promise 4: error 1, the bits end in a natural", Promise04LoadReadingTest::endOfNatural);
        Checks.test("promise 4: error 1, the bits end anywhere", Promise04LoadReadingTest::endAnywhere);
        Checks.test("promise 4: error 1, one bit of a HIDDEN is missing", Promise04LoadReadingTest::endOfHidden);
        Checks.test("promise 4: error 2, a code above 12", Promise04LoadReadingTest::codes);
        Checks.test("promise 4: error 2, a jet above 167", Promise04LoadReadingTest::jets);
        Checks.test("promise 4: error 3, a child before node 0", Promise04LoadReadingTest::children);
        Checks.test("promise 4: error 3 ahead of the next natural", Promise04LoadReadingTest::childAhead);
        Checks.test("promise 4: error 4, N above 400", Promise04LoadReadingTest::tooMany);
        Checks.test("promise 4: error 4, a natural above 65535", Promise04LoadReadingTest::tooLarge);
        Checks.test("promise 4: 400 nodes", Promise04LoadReadingTest::fourHundred);
        Checks.test("promise 4: each node's error ahead of the later ones", Promise04LoadReadingTest::firstOfAll);
        Checks.test("promise 4: reading ahead of 5 and all others", Promise04LoadReadingTest::aheadOfOrder);
        Checks.end();
    }

    /** 0, 01000, 0 and a bit up to the byte's end: UNIT is the byte 32. */
    private static void bitOrder() {
        House x = new House();
        x.feed(1, 32);
        Checks.due("load", x.load(), 0);
        Checks.due("code", x.node(0, 0), 8);
        x.feed(1, 4);
        Checks.due("the lowest first would be UNIT", x.load(), 3);
    }

    /** A LEFT of a LEFT and so on, whose first node the last one goes back to by a natural of each size. */
    private static void naturals() {
        String[] known = {"0", "100", "101", "110000", "110001", "110010", "110011", "1101000"};
        for (int n = 1; n <= known.length; n++) {
            Checks.due("natural " + n, Bits.natural(n), known[n - 1]);
        }
        for (int back : new int[] {1, 2, 3, 4, 7, 8, 15, 16, 17, 31, 32, 63, 64, 127, 128, 255, 256, 257, 300, 399}) {
            String[] told = new String[back + 1];
            told[0] = "8";
            for (int i = 1; i < back; i++) {
                told[i] = "3 1";
            }
            told[back] = "0 1 " + back;
            House x = House.ofBits(Bits.program(told));
            Checks.due("nodes", x.look(0), back + 1);
            Checks.due("one back", x.node(back, 1), back - 1);
            Checks.due(back + " back", x.node(back, 2), 0);
            told[back] = "0 1 " + (back + 1);
            Checks.due(back + 1 + " back", x.load(Bits.program(told)), 3);
            told[back] = "2 " + back + " 1";
            Checks.due("load", x.load(Bits.program(told)), 0);
            Checks.due(back + " back", x.node(back, 1), 0);
        }
        House x = House.ofBits(Bits.program("8", "7", "2 2 1", "2 1 3", "2 1 4", "2 1 5", "2 1 6"));
        for (int i = 3; i <= 6; i++) {
            Checks.due("first child", x.node(i, 1), i - 1);
            Checks.due("second child", x.node(i, 2), 0);
        }
    }

    private static void endOfNatural() {
        Loads.due("11111111", 1);
        Loads.due("1".repeat(8 * 500), 1);
        // N = 4 is 110000, the last bit of its two is missing
        Loads.due(Bits.nodes("8", "8").substring(0, 8), 1);
        // 1 1 1 0 0: 4 bits more are wanted, of which three are there
        Loads.due("111" + "0" + "0" + "000", 1);
        Loads.due("1111" + "0" + "0" + "00", 1);
        // N = 1, COMP, and a child that has no end
        Loads.due("0" + "00000" + "11", 1);
        Loads.due("0" + "00000" + "10", 1);
        Loads.due("0" + "00011" + "11", 1);
        // the bits end ahead of what is too large
        Loads.due("111" + "0" + "1" + "111", 1);
        // the witness's length
        Loads.due(Bits.nodes("12 0", "5 1") + "11", 1);
        Loads.due(Bits.nodes("8", "5 1", "5 1", "5 1") + "1", 1);
    }

    /** A program with each kind of node, moved on bit by bit, and cut at each byte. */
    private static void endAnywhere() {
        for (int more = 0; more < 8; more++) {
            String[] told = new String[20 + more];
            told[0] = "8";
            for (int i = 1; i <= more; i++) {
                told[i] = "2 1 1";
            }
            String[] rest = {"3 1", "4 1", "5 1", "6 1", "11 1", "1 2 1", "10", "12 92", "0 2 1", "2 4 1", "9", "2 2 1",
                "7", "2 2 1", "3 1", "3 1", "3 1", "3 1", "3 1"};
            System.arraycopy(rest, 0, told, 1 + more, rest.length);
            byte[] whole = Checks.bits(Bits.witnessed("10110011", told));
            for (int size = 0; size <= whole.length; size++) {
                Loads.due(java.util.Arrays.copyOf(whole, size), size < whole.length ? 1 : 0);
            }
        }
    }

    private static void endOfHidden() {
        String six = Bits.number(8, 5).repeat(6);
        String cut = Bits.natural(7) + six + Bits.number(11, 5) + "0".repeat(255);
        Checks.due("whole bytes", cut.length() % 8, 0);
        Loads.due(cut, 1);
        Loads.due(cut + "0", 5);
        // a jet's number of which a bit is missing: 6 + 5 + 13 bits
        String jet = Bits.natural(4) + Bits.number(8, 5) + Bits.number(12, 5) + "0000000" + "0";
        Checks.due("whole bytes", jet.length() % 8, 0);
        Loads.due(jet, 1);
        Loads.due("0" + "01100" + "10", 1);
        // a code of which a bit is missing
        Loads.due(Bits.natural(2) + "01000", 1);
        Loads.due(Bits.natural(4) + "01000" + "01000", 1);
        Loads.due(Bits.natural(8) + "01000" + "1111", 1);
    }

    private static void codes() {
        for (int code = 13; code < 32; code++) {
            Loads.due("0" + Bits.number(code, 5) + "00", 2);
            Loads.due(Bits.natural(2) + Bits.number(8, 5) + Bits.number(code, 5) + "000", 2);
            Loads.due(Bits.natural(2) + Bits.number(code, 5), 2);
        }
        // the code's own bits are the last: it is told, ahead of an end
        Loads.due(Bits.natural(4) + "01000" + "01101", 2);
        Loads.due(Bits.program("12 0"), 0);
        Loads.due("0" + "00000" + "0", 3);
    }

    private static void jets() {
        for (int number = 168; number < 256; number++) {
            Loads.due(Bits.program("12 " + number), 2);
        }
        for (int number : new int[] {0, 1, 127, 128, 166, 167}) {
            House x = House.ofBits(Bits.program("12 " + number));
            Checks.due("number", x.node(0, 1), number);
        }
        Loads.due(Bits.natural(2) + Bits.node("12 167") + Bits.node("12 168"), 2);
        // at the very end of the bits
        Loads.due(Bits.natural(2) + Bits.number(12, 5) + "11111111", 2);
        Loads.due(Bits.natural(5) + "01000" + Bits.number(12, 5) + "10101000", 2);
    }

    private static void children() {
        for (int code = 0; code <= 6; code++) {
            String second = code <= 2 ? " 1" : "";
            Loads.due(Bits.program(code + " 1" + second), 3);
            Loads.due(Bits.program("8", code + " 2" + second), 3);
            Loads.due(Bits.program("8", code + " 3" + second), 3);
            Loads.due(Bits.program("8", "5 1", code + " 3" + second), 3);
            Loads.due(Bits.program("8", code + " 65535" + second), 3);
            if (code <= 2) {
                Loads.due(Bits.program("8", code + " 1 2"), 3);
                Loads.due(Bits.program("8", code + " 1 65535"), 3);
                Loads.due(Bits.program("8", "5 1", code + " 2 3"), 3);
            }
        }
        Loads.due(Bits.program("8", "5 1"), 0);
        Loads.due(Bits.program("8", "2 1 1"), 0);
        Loads.due(Bits.program("8", "5 1", "6 2"), 5);
        Loads.due(Bits.program("8", "7", "2 2 1"), 0);
    }

    private static void childAhead() {
        // the first child is before node 0; of the second one no bit is there
        Loads.due("0" + "00000" + "0" + "1", 3);
        Loads.due("0" + "00010" + "100", 3);
        Loads.due("0" + "00001" + "0" + "1".repeat(9), 3);
        // .. or it is too large
        Loads.due("0" + "00000" + "0" + "1111" + "0" + "0" + "00" + "0000", 3);
        // .. or it is the one that is too large, behind a good one
        Loads.due(Bits.natural(2) + "01000" + "00000" + "0" + "1111" + "0" + "0" + "00" + "0000", 4);
        Loads.due(Bits.natural(2) + "01000" + "00000" + "0" + "100", 3);
        Loads.due(Bits.natural(2) + "01000" + "00010" + "0" + "11", 1);
    }

    private static void tooMany() {
        Loads.due(Bits.natural(401), 4);
        Loads.due(Bits.natural(402) + "0".repeat(4000), 4);
        Loads.due(Bits.natural(512), 4);
        Loads.due(Bits.natural(65535), 4);
        // 400 of which none is there: N has 1 + 7 + 8 bits, two whole bytes
        Checks.due("bits of 400", Bits.natural(400).length(), 16);
        Loads.due(Bits.natural(400), 1);
        Loads.due(Bits.natural(400) + "11111", 2);
        Loads.due(Bits.natural(401) + "11111", 4);
        Loads.due(Bits.natural(399) + "11111", 2);
    }

    private static void tooLarge() {
        // N: k is 16, and not one of its bits is there
        Loads.due("1" + Bits.natural(16), 4);
        Loads.due("1" + Bits.natural(16) + "0".repeat(100), 4);
        Loads.due("1" + Bits.natural(15) + "0".repeat(100), 4);
        Loads.due("1" + Bits.natural(15), 1);
        Loads.due("1" + Bits.natural(17) + "0".repeat(100), 4);
        // k itself has a k above 15
        Loads.due("11" + Bits.natural(16), 4);
        Loads.due("11" + Bits.natural(15) + "0".repeat(4), 1);
        Loads.due("11" + Bits.natural(15) + "0".repeat(15), 4);
        Loads.due("1".repeat(3000) + "0".repeat(80), 4);
        Loads.due("11111" + "0".repeat(11), 4);
        Loads.due("11111" + "0".repeat(3), 1);
        // children: 65535 is read, and is before node 0; more is not
        for (int code = 0; code <= 6; code++) {
            String head = Bits.natural(2) + "01000" + Bits.number(code, 5);
            Loads.due(head + Bits.natural(65535) + "0".repeat(20), 3);
            Loads.due(head + Bits.natural(65536) + "0".repeat(20), 4);
            Loads.due(head + "1" + Bits.natural(16), 4);
            Loads.due(head + "1" + Bits.natural(15) + "0", 1);
        }
    }

    private static void fourHundred() {
        String[] told = new String[400];
        told[0] = "8";
        for (int i = 1; i < 400; i++) {
            told[i] = "5 1";
        }
        House x = House.ofBits(Bits.program(told));
        Checks.due("nodes", x.look(0), 400);
        Checks.due("the last", x.node(399, 1), 398);
        Checks.due("steps", x.look(5), 400);
        String[] more = java.util.Arrays.copyOf(told, 401);
        more[400] = "5 1";
        Checks.due("one more", x.load(Bits.program(more)), 4);
        Checks.due("the program stays", x.look(0), 400);
        Checks.due("one less", x.load(Bits.program(java.util.Arrays.copyOf(told, 399))), 0);
        Checks.due("nodes", x.look(0), 399);
        Checks.due("a single one", x.load(Bits.program("7")), 0);
        Checks.due("nodes", x.look(0), 1);
    }

    private static void firstOfAll() {
        // node 1 is wrong in its way, node 2 in another one
        String start = Bits.natural(3) + "01000";
        String code = "11111";
        String jet = Bits.node("12 200");
        String child = Bits.node("3 9");
        String large = "00011" + "1" + Bits.natural(16);
        Loads.due(start + code + child, 2);
        Loads.due(start + jet + child, 2);
        Loads.due(start + child + code, 3);
        Loads.due(start + child + large, 3);
        Loads.due(start + large + code, 4);
        Loads.due(start + large + child, 4);
        Loads.due(start + code + large, 2);
        Loads.due(start + "01000", 1);
        Loads.due(start + code, 2);
        Loads.due(start + child, 3);
        Loads.due(start + large, 4);
    }

    /** Nodes that are not in order, hidden where they may not be, or twice there: and one that can't be read. */
    private static void aheadOfOrder() {
        Loads.due(Bits.natural(4) + Bits.node("8") + Bits.node("11") + Bits.node("5 1") + "11111", 2);
        Loads.due(Bits.natural(4) + Bits.node("8") + Bits.node("8") + Bits.node("12 0") + Bits.node("0 4 1"), 3);
        Loads.due(Bits.natural(4) + Bits.node("8") + Bits.node("8") + Bits.node("12 0"), 1);
        Loads.due(Bits.natural(4) + Bits.node("8") + Bits.node("8") + Bits.node("12 0") + "00011" + "1"
                + Bits.natural(16), 4);
    }
}

/** Promise 4: the errors 5 to 9 of a row as a program, and in which order they are met. */
public final class Promise04LoadJudgingTest {
    private Promise04LoadJudgingTest() {
    }

    public static void main(String[] args) {
        Checks.test("promise 4: error 5, the order", Promise04LoadJudgingTest::order);
        Checks.test("promise 4: error 5, not all nodes", Promise04LoadJudgingTest::notAll);
        Checks.test("promise 4: error 5, those not met before alone", Promise04LoadJudgingTest::metBefore);
        Checks.test("promise 4: error 7, the last is HIDDEN", Promise04LoadJudgingTest::lastHidden);
        Checks.test("promise 4: error 7, a HIDDEN child of no CASE", Promise04LoadJudgingTest::hiddenChild);
        Checks.test("promise 4: error 7, both children of a CASE", Promise04LoadJudgingTest::hiddenBoth);
        Checks.test("promise 4: error 8, no types", Promise04LoadJudgingTest::noTypes);
        Checks.test("promise 4: error 8, no finite types", Promise04LoadJudgingTest::notFinite);
        Checks.test("promise 4: a HIDDEN child asks nothing", Promise04LoadJudgingTest::asksNothing);
        Checks.test("promise 4: a node has one type, wherever it stands", Promise04LoadJudgingTest::oneType);
        Checks.test("promise 4: error 9, a target of 2048, and of more", Promise04LoadJudgingTest::wideTarget);
        Checks.test("promise 4: error 9, a source of 2048, and of more", Promise04LoadJudgingTest::wideSource);
        Checks.test("promise 4: error 9, inside the program", Promise04LoadJudgingTest::wideInside);
        Checks.test("promise 4: error 9, a sum of 2048, and of more", Promise04LoadJudgingTest::wideSum);
        Checks.test("promise 4: error 9, widths that wrap around", Promise04LoadJudgingTest::wrapsAround);
        Checks.test("promise 4: error 6, two that are the same", Promise04LoadJudgingTest::same);
        Checks.test("promise 4: error 6, not with another type", Promise04LoadJudgingTest::sameButTypes);
        Checks.test("promise 4: error 6, not with other children", Promise04LoadJudgingTest::sameButChildren);
        Checks.test("promise 4: error 6, WITNESS ones never are", Promise04LoadJudgingTest::sameWitness);
        Checks.test("promise 4: error 6, HIDDEN ones by their bits", Promise04LoadJudgingTest::sameHidden);
        Checks.test("promise 4: 5 ahead of 7, 8, 9, 6", Promise04LoadJudgingTest::fiveAhead);
        Checks.test("promise 4: 7 ahead of 8, 9, 6", Promise04LoadJudgingTest::sevenAhead);
        Checks.test("promise 4: 8 ahead of 9, 6", Promise04LoadJudgingTest::eightAhead);
        Checks.test("promise 4: 9 ahead of 6", Promise04LoadJudgingTest::nineAhead);
        Checks.test("promise 4: 5 to 9 and 6 ahead of the witness", Promise04LoadJudgingTest::aheadOfWitness);
        Checks.end();
    }

    private static void order() {
        Loads.due(Bits.program("7", "8", "2 2 1"), 0);
        Loads.due(Bits.program("7", "8", "2 1 2"), 5);
        Loads.due(Bits.program("8", "7", "0 1 2"), 5);
        Loads.due(Bits.program("8", "7", "1 1 2"), 5);
        // the second child stands ahead of what the first one needs
        Loads.due(Bits.program("7", "8", "3 2", "2 1 2"), 5);
        Loads.due(Bits.program("7", "3 1", "8", "2 2 1"), 0);
        Loads.due(Bits.program("7", "8", "3 1", "2 3 1"), 0);
        // deep below
        Loads.due(Bits.program("7", "8", "2 2 1", "9", "2 2 1", "3 1"), 0);
        Loads.due(Bits.program("7", "8", "2 2 1", "9", "2 1 2", "3 1"), 5);
        Loads.due(Bits.program("7", "8", "2 1 2", "9", "2 2 1", "3 1"), 5);
    }

    private static void notAll() {
        Loads.due(Bits.program("8", "7"), 5);
        Loads.due(Bits.program("8", "7", "3 1"), 5);
        Loads.due(Bits.program("7", "8", "3 2"), 5);
        Loads.due(Bits.program("8", "3 1", "4 2"), 5);
        Loads.due(Bits.program("8", "3 1", "4 1", "2 3 3"), 5);
        Loads.due(Bits.program("7", "10", "8", "2 3 1"), 5);
        Loads.due(Bits.program("10", "11", "8", "3 1"), 5);
        Loads.due(Bits.program("8", "3 1", "4 1"), 0);
    }

    private static void metBefore() {
        // the second child has been met as one below the first
        Loads.due(Bits.program("8", "3 1", "2 1 2"), 0);
        // the first child is met again below the second
        Loads.due(Bits.program("8", "3 1", "2 2 1"), 0);
        Loads.due(Bits.program("8", "3 1", "4 1", "2 3 1"), 0);
        Loads.due(Bits.program("8", "3 1", "4 1", "2 1 2"), 0);
        Loads.due(Bits.program("8", "3 1", "4 1", "2 1 3"), 0);
        // both children are the same one
        Loads.due(Bits.program("8", "3 1", "2 1 1"), 0);
        // met below the first: it is left there, and not again
        Loads.due(Bits.program("8", "7", "2 2 1", "3 2", "2 2 1"), 0);
        Loads.due(Bits.program("8", "7", "3 1", "2 3 2", "2 1 2"), 5);
        Loads.due(Bits.program("8", "7", "3 1", "2 3 1", "2 1 2"), 0);
        Loads.due(Bits.program("8", "7", "3 1", "2 3 1", "2 1 3"), 0);
    }

    private static void lastHidden() {
        Loads.due(Bits.program("11"), 7);
        Loads.due(Bits.program("11 1"), 7);
        Loads.due(Bits.program("8", "11"), 5);
        Loads.due(Bits.program("8", "11", "1 2 1"), 0);
    }

    private static void hiddenChild() {
        for (int code = 3; code <= 6; code++) {
            Loads.due(Bits.program("11", code + " 1"), 7);
            Loads.due(Bits.program("8", "11", "1 2 1", "11 5", code + " 1", "2 3 1"), 7);
        }
        for (int code = 0; code <= 2; code += 2) {
            Loads.due(Bits.program("11", "8", code + " 2 1"), 7);
            Loads.due(Bits.program("8", "11", code + " 2 1"), 7);
            Loads.due(Bits.program("11", code + " 1 1"), 7);
            Loads.due(Bits.program("11", "11 1", code + " 2 1"), 7);
        }
        // it is a CASE's child as well
        Loads.due(Bits.program("8", "11", "1 2 1", "3 2", "2 2 1"), 7);
    }

    private static void hiddenBoth() {
        Loads.due(Bits.program("11", "1 1 1"), 7);
        Loads.due(Bits.program("11", "11 1", "1 2 1"), 7);
        Loads.due(Bits.program("11", "8", "1 2 1"), 0);
        Loads.due(Bits.program("8", "11", "1 2 1"), 0);
        Loads.due(Bits.program("8", "1 1 1"), 0);
        Loads.due(Bits.program("8", "11", "1 2 1", "11 1", "1 3 1", "2 3 1"), 7);
        Loads.due(Bits.program("8", "11", "1 2 1", "1 1 2", "2 2 1"), 8);
        Loads.due(Bits.program("8", "11", "1 2 1", "1 1 2"), 0);
    }

    private static void noTypes() {
        // COMP: ONE and a pair, a sum and a pair, ONE and a sum
        Loads.due(Bits.program("8", "12 0", "0 2 1"), 8);
        Loads.due(Bits.program("8", "3 1", "5 2", "0 2 1"), 8);
        Loads.due(Bits.program("8", "12 76", "0 2 1"), 8);
        Loads.due(Bits.program("12 48", "12 92", "0 2 1"), 8);
        // words of two sizes
        Loads.due(Bits.program("12 120", "12 93", "0 2 1"), 8);
        Loads.due(Bits.program("12 121", "12 93", "0 2 1"), 0);
        Loads.due(Bits.program("12 92", "12 93", "2 2 1"), 8);
        Loads.due(Bits.program("12 92", "12 96", "2 2 1"), 8);
        Loads.due(Bits.program("12 96", "12 100", "2 2 1"), 0);
        // CASE: the targets, the second parts, a source that is no pair
        Loads.due(Bits.program("8", "3 1", "1 2 1"), 8);
        Loads.due(Bits.program("12 120", "6 1", "12 121", "6 1", "1 3 1"), 8);
        Loads.due(Bits.program("12 92", "6 1", "12 93", "6 1", "1 3 1"), 8);
        Loads.due(Bits.program("12 92", "6 1", "12 96", "6 1", "1 3 1"), 8);
        Loads.due(Bits.program("12 92", "5 1", "12 96", "5 1", "1 3 1"), 0);
        Loads.due(Bits.program("12 120", "1 1 1"), 8);
        Loads.due(Bits.program("12 0", "1 1 1"), 0);
        // jets that ask for other types
        Loads.due(Bits.program("12 0", "12 92", "0 2 1"), 8);
        Loads.due(Bits.program("12 0", "12 92", "6 1", "0 3 1"), 0);
        Loads.due(Bits.program("12 0", "12 92", "5 1", "0 3 1"), 8);
    }

    private static void notFinite() {
        // a is a * a
        Loads.due(Bits.program("7", "2 1 1", "0 1 1"), 8);
        Loads.due(Bits.program("7", "2 1 1", "7", "2 1 1", "0 3 1"), 0);
        // a is a * b, b * a, a + b, b + a
        Loads.due(Bits.program("7", "5 1", "2 2 1"), 8);
        Loads.due(Bits.program("7", "6 1", "2 2 1"), 8);
        Loads.due(Bits.program("7", "3 1", "0 1 1"), 8);
        Loads.due(Bits.program("7", "4 1", "0 1 1"), 8);
        Loads.due(Bits.program("7", "3 1", "0 2 1"), 0);
        Loads.due(Bits.program("7", "3 1", "4 2", "0 2 1"), 8);
        Loads.due(Bits.program("7", "3 1", "7", "4 1", "0 3 1"), 0);
        Loads.due(Bits.program("9", "3 1", "0 1 1"), 0);
        // a long way round
        String[] told = new String[300];
        told[0] = "7";
        for (int i = 1; i < 299; i++) {
            told[i] = i % 2 == 0 ? "3 1" : "4 1";
        }
        told[299] = "0 1 1";
        Loads.due(Bits.program(told), 8);
        told[299] = "0 1 299";
        Loads.due(Bits.program(told), 8);
        told[299] = "3 1";
        Loads.due(Bits.program(told), 0);
        // in a node that the last one's types do not show
        Loads.due(Bits.program("7", "2 1 1", "0 1 1", "8", "0 2 1"), 8);
    }

    private static void asksNothing() {
        House x = House.ofBits(Bits.program("12 92", "5 1", "11", "1 2 1"));
        Checks.due("source", x.type(3, false), Checks.bytes("(((((b*b)*(b*b))*((b*b)*(b*b)))+1)*1)").length + 8 * 4);
        Checks.due("width", x.node(3, 3), 9);
        House y = House.ofBits(Bits.program("11", "12 92", "5 1", "1 3 1"));
        Checks.due("width", y.node(3, 3), 9);
        Checks.due("target", y.node(3, 4), 8);
        House z = House.ofBits(Bits.program("11", "12 92", "6 1", "1 3 1"));
        Checks.due("width", z.node(3, 3), 9);
        Checks.due("type", z.type(3, false), 69);
    }

    private static void oneType() {
        // one IDEN can't be of ONE and of WORD 8; two can
        Loads.due(Bits.program("12 120", "7", "0 2 1"), 0);
        Loads.due(Bits.program("12 120", "7", "0 2 1", "7", "0 1 2"), 5);
        Loads.due(Bits.program("7", "12 120", "0 2 1", "7", "0 2 1"), 0);
        Loads.due(Bits.program("7", "12 120", "0 2 1", "0 1 3"), 8);
    }

    private static String[] doubled(int start, int times, String... behind) {
        String[] told = new String[1 + times + behind.length];
        told[0] = "12 " + start;
        for (int i = 1; i <= times; i++) {
            told[i] = "2 1 1";
        }
        System.arraycopy(behind, 0, told, 1 + times, behind.length);
        return told;
    }

    private static void wideTarget() {
        Loads.due(Bits.program(doubled(123, 5)), 0);
        Loads.due(Bits.program(doubled(123, 6)), 9);
        Loads.due(Bits.program(doubled(120, 8)), 0);
        Loads.due(Bits.program(doubled(120, 9)), 9);
        // 2048 and BIT, 2048 and ONE
        Loads.due(Bits.program(doubled(123, 5, "8", "3 1", "2 3 1")), 9);
        Loads.due(Bits.program(doubled(123, 5, "8", "2 2 1")), 0);
        House x = House.ofBits(Bits.program(doubled(123, 5)));
        Checks.due("width", x.look(2), 2048);
        Checks.due("width", x.node(5, 4), 2048);
    }

    /** TAKE and DROP of it: from a * b, where b is as wide again. */
    private static void wideSource() {
        String[] wide = {"12 95", "5 1", "6 2", "2 2 1", "5 1", "6 2", "2 2 1", "5 1", "6 2", "2 2 1", "5 1", "6 2",
            "2 2 1", "5 1", "6 2", "2 2 1"};
        House x = House.ofBits(Bits.program(wide));
        Checks.due("source", x.look(1), 2048);
        Checks.due("target", x.look(2), 2048);
        String[] wider = java.util.Arrays.copyOf(wide, wide.length + 3);
        wider[16] = "5 1";
        wider[17] = "6 2";
        wider[18] = "2 2 1";
        Loads.due(Bits.program(wider), 9);
        // the source alone: all is forgotten behind it
        String[] forgotten = java.util.Arrays.copyOf(wide, wide.length + 2);
        forgotten[16] = "8";
        forgotten[17] = "0 2 1";
        Loads.due(Bits.program(forgotten), 0);
        String[] more = java.util.Arrays.copyOf(wide, wide.length + 5);
        more[16] = "8";
        more[17] = "0 2 1";
        more[18] = "5 1";
        more[19] = "12 76";
        more[20] = "2 2 1";
        Loads.due(Bits.program(more), 8);
        more[18] = "5 1";
        more[19] = "1 1 1";
        more = java.util.Arrays.copyOf(more, 20);
        Loads.due(Bits.program(more), 9);
        // TAKE of 2048 bits from a * ONE: as wide; from a * WORD 8: wider
        String[] take = java.util.Arrays.copyOf(forgotten, 19);
        take[18] = "5 1";
        Loads.due(Bits.program(take), 0);
        String[] both = java.util.Arrays.copyOf(take, 22);
        both[19] = "12 92";
        both[20] = "6 1";
        both[21] = "2 3 1";
        Loads.due(Bits.program(both), 9);
    }

    private static void wideInside() {
        // 2048 bits inside, ONE at both ends
        Loads.due(Bits.program(doubled(123, 5, "8", "0 2 1")), 0);
        Loads.due(Bits.program(doubled(123, 6, "8", "0 2 1")), 9);
        Loads.due(Bits.program(doubled(123, 5, "3 1", "8", "0 2 1")), 9);
        // a WITNESS's target
        Loads.due(Bits.witnessed("0".repeat(2048), Rows.wideWitness(5)), 0);
        Loads.due(Bits.program(Rows.wideWitness(6)), 9);
    }

    private static void wideSum() {
        // of a sum 1 and the greater one of both: pairs of 1024, 512 .. 1 bits have 2047
        String[] told = new String[24];
        told[0] = "8";
        told[1] = "3 1";
        for (int i = 2; i <= 11; i++) {
            told[i] = "2 1 1";
        }
        // node 11 has 1024 bits, node 12 has 1024 + 512, node 21 has 2047
        told[12] = "2 1 2";
        for (int i = 13; i <= 21; i++) {
            told[i] = "2 1 " + (2 * i - 22);
        }
        House x = House.ofBits(Bits.program(java.util.Arrays.copyOf(told, 22)));
        Checks.due("width", x.look(2), 2047);
        for (String side : new String[] {"3 1", "4 1"}) {
            told[22] = side;
            House y = House.ofBits(Bits.program(java.util.Arrays.copyOf(told, 23)));
            Checks.due("width", y.look(2), 2048);
            told[23] = side;
            Loads.due(Bits.program(told), 9);
        }
    }

    private static void wrapsAround() {
        for (int times : new int[] {11, 12, 15, 16, 17, 20, 21, 22, 25, 26, 27, 28, 29, 30, 31, 32, 33, 34, 50, 58, 59, 60,
            61, 62, 63, 64, 65, 66, 122, 123, 124, 125, 126, 127, 128, 129, 200, 254, 255, 256, 257, 399}) {
            String[] told = new String[times + 1 < 400 ? times + 2 : times + 1];
            told[0] = "8";
            told[1] = "3 1";
            for (int i = 2; i < told.length; i++) {
                told[i] = "2 1 1";
            }
            Loads.due(Bits.program(told), told.length - 2 <= 11 ? 0 : 9);
        }
        for (int times = 6; times <= 70; times++) {
            Loads.due(Bits.program(doubled(123, times)), 9);
        }
    }

    private static void same() {
        Loads.due(Bits.program("8", "8", "2 2 1"), 6);
        Loads.due(Bits.program("7", "7", "2 2 1"), 6);
        Loads.due(Bits.program("9", "9", "2 2 1"), 6);
        Loads.due(Bits.program("12 0", "12 0", "2 2 1"), 6);
        Loads.due(Bits.program("12 96", "12 100", "2 2 1"), 0);
        Loads.due(Bits.program("12 167", "12 167", "2 2 1"), 6);
        for (int code = 3; code <= 4; code++) {
            Loads.due(Bits.program("8", code + " 1", code + " 2", "2 2 1"), 6);
            Loads.due(Bits.program("8", code + " 1", code + " 1", "2 2 1"), 0);
        }
        for (int code = 5; code <= 6; code++) {
            Loads.due(Bits.program("8", code + " 1", code + " 2", "2 2 1"), 6);
        }
        Loads.due(Bits.program("8", "1 1 1", "1 2 2", "2 2 1"), 6);
        Loads.due(Bits.program("8", "2 1 1", "2 2 2", "2 2 1"), 6);
        Loads.due(Bits.program("9", "0 1 1", "0 2 2", "2 2 1"), 6);
        // far from one another
        Loads.due(Bits.program("8", "3 1", "3 1", "3 1", "4 1", "8", "2 2 1"), 6);
    }

    private static void sameButTypes() {
        // UNIT of WORD 8 and of ONE
        Loads.due(Bits.program("12 120", "8", "0 2 1", "8", "2 2 1"), 0);
        // .. and both of WORD 8
        Loads.due(Bits.program("12 92", "8", "0 2 1", "8", "2 2 1"), 6);
        // two IDENs: of ONE, of WORD 8
        Loads.due(Bits.program("7", "12 120", "7", "0 2 1", "2 4 1"), 0);
        Loads.due(Bits.program("7", "12 120", "0 2 1", "7", "2 2 1"), 6);
        // the same targets, other sources; the same sources, other targets
        Loads.due(Bits.program("9", "12 92", "0 2 1", "9", "2 2 1"), 0);
        Loads.due(Bits.program("9", "12 92", "0 2 1", "9", "12 93", "0 2 1", "2 4 1"), 0);
        Loads.due(Bits.program("9", "12 92", "0 2 1", "9", "12 96", "0 2 1", "2 4 1"), 0);
        // LEFT of the same node, to ONE + ONE and to ONE + WORD 8
        House x = House.of("u = unit l = left u k = left u "
                + "f = comp (pair iden unit) case (take unit) (take comp jet 92 unit) a = pair l comp k f");
        Checks.due("nodes", x.look(0), 15);
        Checks.due("LEFT", x.node(1, 0) * 10 + x.node(2, 0), 33);
        Checks.due("widths", x.node(1, 4) * 10 + x.node(2, 4), 19);
    }

    private static void sameButChildren() {
        Loads.due(Bits.program("8", "7", "2 2 1", "2 2 3", "2 2 1"), 0);
        Loads.due(Bits.program("8", "7", "2 2 1", "2 3 2", "2 2 1"), 6);
        Loads.due(Bits.program("9", "8", "0 2 1", "0 3 2", "2 2 1"), 6);
        Loads.due(Bits.program("9", "8", "0 2 1", "0 2 3", "2 2 1"), 0);
        Loads.due(Bits.program("8", "3 1", "4 2", "2 2 1"), 0);
    }

    private static void sameWitness() {
        Loads.due(Bits.program("10", "10", "2 2 1"), 0);
        Loads.due(Bits.program("10", "3 1", "10", "3 1", "2 3 1"), 0);
        Loads.due(Bits.program("10", "3 1", "3 2", "2 2 1"), 6);
        Loads.due(Bits.witnessed("0000000000000000", "10", "12 92", "0 2 1", "10", "0 1 3", "2 3 1"), 0);
    }

    private static void sameHidden() {
        Loads.due(Bits.program("8", "11", "1 2 1", "11", "1 4 1", "2 3 1"), 6);
        Loads.due(Bits.program("8", "11", "1 2 1", "11 1", "1 4 1", "2 3 1"), 0);
        Loads.due(Bits.program("8", "11", "1 2 1", "11 2", "1 4 1", "2 3 1"), 0);
        Loads.due(Bits.program("8", "11 4", "1 2 1", "11 4", "1 4 1", "2 3 1"), 6);
        // the first bit of the 256 alone
        String first = Bits.number(11, 5) + "1" + "0".repeat(255);
        String none = Bits.number(11, 5) + "0".repeat(256);
        String head = Bits.natural(6) + Bits.node("8");
        String mid = Bits.node("1 2 1");
        String end = Bits.node("1 4 1") + Bits.node("2 3 1") + "0";
        Loads.due(head + first + mid + none + end, 0);
        Loads.due(head + first + mid + first + end, 6);
        for (int bit = 0; bit < 256; bit += 17) {
            String one = Bits.number(11, 5) + "0".repeat(bit) + "1" + "0".repeat(255 - bit);
            Loads.due(head + none + mid + one + end, 0);
            Loads.due(head + one + mid + one + end, 6);
        }
        // the same bits where other types are: the first child of one CASE, the second of another
        Loads.due(Bits.program("8", "11", "1 2 1", "11", "1 1 4", "2 3 1"), 6);
        Loads.due(Bits.program("8", "11", "1 2 1", "1 2 3", "2 2 1"), 0);
    }

    private static void fiveAhead() {
        Loads.due(Bits.program("8", "11"), 5);
        Loads.due(Bits.program("8", "11", "5 1"), 5);
        Loads.due(Bits.program("11", "11 1", "1 1 2"), 5);
        Loads.due(Bits.program("12 0", "8", "0 1 2"), 5);
        Loads.due(Bits.program(doubled(123, 6, "8", "2 1 2")), 5);
        Loads.due(Bits.program("8", "8", "2 1 2"), 5);
        Loads.due(Bits.program("8", "8"), 5);
    }

    private static void sevenAhead() {
        Loads.due(Bits.program("8", "12 0", "0 2 1", "11", "2 2 1"), 7);
        Loads.due(Bits.program("11", "8", "12 0", "0 2 1", "2 4 1"), 7);
        Loads.due(Bits.program(doubled(123, 6, "11", "2 2 1")), 7);
        Loads.due(Bits.program("8", "8", "2 2 1", "11", "2 2 1"), 7);
        Loads.due(Bits.program("8", "11", "1 2 1", "11", "3 1", "2 3 1"), 7);
    }

    private static void eightAhead() {
        // too wide, and no types; no types, and too wide
        Loads.due(Bits.program(doubled(123, 6, "8", "12 0", "0 2 1", "2 4 1")), 8);
        Loads.due(Bits.program(doubled(123, 6, "12 92", "0 2 1")), 8);
        Loads.due(Bits.program(doubled(123, 6, "7", "3 1", "0 1 1", "2 4 1")), 8);
        Loads.due(Bits.program("8", "8", "2 2 1", "12 0", "0 2 1"), 8);
        Loads.due(Bits.program("8", "12 0", "0 2 1", "8", "2 2 1"), 8);
    }

    private static void nineAhead() {
        Loads.due(Bits.program("12 123", "12 123", "2 2 1", "2 1 1", "2 1 1", "2 1 1", "2 1 1", "2 1 1"), 9);
        Loads.due(Bits.program("12 123", "12 123", "2 2 1", "2 1 1", "2 1 1", "2 1 1", "2 1 1"), 6);
        Loads.due(Bits.program(doubled(123, 6, "8", "8", "2 2 1", "2 4 1")), 9);
        Loads.due(Bits.program(doubled(123, 5, "8", "8", "2 2 1", "2 4 1")), 6);
    }

    /** No bit of a witness is there, or it is too long: the nodes' errors come ahead. */
    private static void aheadOfWitness() {
        String none = "";
        String large = "1" + Bits.natural(16);
        for (String behind : new String[] {none, large, Bits.natural(9) + "00", "0" + "1".repeat(9)}) {
            Loads.due(Bits.nodes("8", "8", "2 1 2") + behind, 5);
            Loads.due(Bits.nodes("11", "5 1") + behind, 7);
            Loads.due(Bits.nodes("8", "12 0", "0 2 1") + behind, 8);
            Loads.due(Bits.nodes(doubled(123, 6)) + behind, 9);
            Loads.due(Bits.nodes("8", "8", "2 2 1") + behind, 6);
        }
    }
}

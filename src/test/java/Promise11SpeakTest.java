/** Promise 11: a speech of the program, up to 8192 bytes, and beyond. */
public final class Promise11SpeakTest {
    private Promise11SpeakTest() {
    }

    public static void main(String[] args) {
        Checks.test("promise 11: no program", Promise11SpeakTest::noProgram);
        Checks.test("promise 11: a line of each code", Promise11SpeakTest::lines);
        Checks.test("promise 11: numbers without 0s ahead", Promise11SpeakTest::numbers);
        Checks.test("promise 11: all lines of 400 nodes", Promise11SpeakTest::fourHundred);
        Checks.test("promise 11: HIDDEN, 64 digits", Promise11SpeakTest::hidden);
        Checks.test("promise 11: WITNESS, its row, or - for none", Promise11SpeakTest::witness);
        Checks.test("promise 11: 8192 bytes and 8193", Promise11SpeakTest::longest);
        Checks.test("promise 11: far above 8192 bytes", Promise11SpeakTest::farAbove);
        Checks.test("promise 11: a row that goes beyond 8192 bytes", Promise11SpeakTest::longRows);
        Checks.test("promise 11: what it speaks tells the same program", Promise11SpeakTest::saysTheSame);
        Checks.test("promise 11: nothing but OUT changes", Promise11SpeakTest::nothingElse);
        Checks.end();
    }

    private static void due(House x, String want) {
        Checks.due("speak", x.speak(), want.length());
        Checks.due("OUT", x.look(8), want.length());
        Checks.due("text", x.outBytes(), Checks.bytes(want));
    }

    private static void noProgram() {
        House x = new House();
        Checks.dueThrows("speak", IllegalStateException.class, x::speak);
        x.say("a = unit");
        x.feed(3, 77);
        Checks.dueRefused("speak of what is only said", x, IllegalStateException.class, x::speak);
        x.load();
        Checks.dueRefused("speak of what is refused", x, IllegalStateException.class, x::speak);
    }

    private static void lines() {
        String h = "hidden " + "0123456789abcdef".repeat(4);
        String text = "n0 = iden\nn1 = unit\nn2 = fail\nn3 = witness -\nn4 = pair n2 n3\nn5 = pair n1 n4\nn6 = pair n0 n5\n"
                + "n7 = left n6\nn8 = right n7\nn9 = take n8\nn10 = drop n9\nn11 = " + h
                + "\nn12 = case n10 n11\nn13 = unit\nn14 = jet 120\nn15 = comp n13 n14\nn16 = comp n12 n15\n";
        due(House.of(text), text);
        due(House.ofBits(Bits.program("7")), "n0 = iden\n");
        due(House.ofBits(Bits.program("10")), "n0 = witness -\n");
        due(House.ofBits(Bits.program("8", "11 1", "1 2 1")), "n0 = unit\nn1 = hidden " + "f".repeat(64)
                + "\nn2 = case n0 n1\n");
        due(House.ofBits(Bits.program("11", "8", "1 2 1")), "n0 = hidden " + "0".repeat(64)
                + "\nn1 = unit\nn2 = case n0 n1\n");
    }

    private static void numbers() {
        for (int number : new int[] {0, 1, 9, 10, 11, 99, 100, 101, 109, 110, 160, 167}) {
            due(House.ofBits(Bits.program("12 " + number)), "n0 = jet " + number + "\n");
        }
        String[] told = new String[112];
        StringBuilder want = new StringBuilder("n0 = unit\n");
        told[0] = "8";
        for (int i = 1; i < told.length; i++) {
            told[i] = "5 1";
            want.append("n").append(i).append(" = take n").append(i - 1).append("\n");
        }
        due(House.ofBits(Bits.program(told)), want.toString());
    }

    /** All 400 lines, read by two objects, for one has too few calls. */
    private static void fourHundred() {
        String[] told = new String[400];
        StringBuilder want = new StringBuilder("n0 = unit\n");
        told[0] = "8";
        for (int i = 1; i < 400; i++) {
            told[i] = i % 2 == 0 ? "5 1" : "6 1";
            want.append("n").append(i).append(i % 2 == 0 ? " = take n" : " = drop n").append(i - 1).append("\n");
        }
        byte[] bytes = Checks.bytes(want.toString());
        for (int half = 0; half < 2; half++) {
            House x = House.ofBits(Bits.program(told));
            Checks.due("speak", x.speak(), bytes.length);
            int from = half == 0 ? 0 : bytes.length / 16 * 8;
            int to = half == 0 ? bytes.length / 16 * 8 : bytes.length;
            for (int k = from; k < to; k += 8) {
                long eight = 0;
                for (int i = 7; i >= 0; i--) {
                    eight = eight << 8 | (k + i < bytes.length ? bytes[k + i] & 255 : 0);
                }
                Checks.due("text from " + k, x.out(k), eight);
            }
        }
    }

    private static void hidden() {
        for (int n : new int[] {0, 2, 9, 10, 15, 16, 255, 1 << 30}) {
            String hex = Integer.toHexString(n);
            due(House.ofBits(Bits.program("8", "11 " + n, "1 2 1")), "n0 = unit\nn1 = hidden "
                    + "0".repeat(64 - hex.length()) + hex + "\nn2 = case n0 n1\n");
        }
    }

    private static void witness() {
        due(House.ofBits(Bits.witnessed("01011100", "10", "12 92", "0 2 1")),
                "n0 = witness 01011100\nn1 = jet 92\nn2 = comp n0 n1\n");
        due(House.ofBits(Bits.witnessed("00000000" + "11111110", "10", "12 92", "0 2 1", "10", "0 1 3", "10", "2 2 1",
                "2 5 1")), "n0 = witness 00000000\nn1 = jet 92\nn2 = comp n0 n1\nn3 = witness 11111110\nn4 = comp n3 n1\n"
                + "n5 = witness -\nn6 = pair n4 n5\nn7 = pair n2 n6\n");
    }

    private static void longest() {
        for (int bytes = 8188; bytes <= 8196; bytes++) {
            House x = House.ofBits(Rows.spoken(bytes));
            Checks.due("write", x.write() > 0);
            int before = x.look(8);
            int nodes = x.look(0);
            Checks.due("speak of " + bytes, x.speak(), bytes > 8192 ? -1 : bytes);
            Checks.due("OUT", x.look(8), bytes > 8192 ? before : bytes);
            if (bytes <= 8192) {
                Checks.due("the last byte", x.out(bytes - 1), 10);
                Checks.due("the first bytes", x.out(0), 0x6e75203d20306eL | 0x69L << 56);
                Checks.due("again", x.again(), bytes);
                Checks.due("say", x.say(), 0);
                Checks.due("as long as it was", x.look(8), before);
                byte[] said = x.outBytes();
                x.write();
                Checks.due("as it was", x.outBytes(), said);
            }
            Checks.due("nodes", nodes, 400);
        }
    }

    private static void farAbove() {
        House x = House.ofBits(Bits.program(Rows.pairNodes(400)));
        Checks.due("400 pairs", x.speak(), -1);
        Checks.due("OUT", x.look(8), 0);
        Checks.due("type", x.type(0, true), 1);
        Checks.due("speak", x.speak(), -1);
        Checks.due("OUT stays", x.out(0), '1');
        House y = new House();
        Checks.due("say", y.say(Rows.speechOf(8192)), 0);
        y.again();
        Checks.due("load", y.load(), 0);
        Checks.due("rows of 31 times 2048 bits", y.speak(), -1);
        Checks.due("OUT stays", y.look(8), 8192);
    }

    /** Lines of 2048 and some bytes: three have room, the fourth has not. */
    private static void longRows() {
        for (int rows = 1; rows <= 5; rows++) {
            StringBuilder witness = new StringBuilder("01".repeat(1024));
            for (int i = 1; i < rows; i++) {
                witness.append("10".repeat(1024));
            }
            String program = Bits.witnessed(witness.toString(), forgetting(Rows.wideWitness(5), rows));
            House x = House.ofBits(program);
            int size = Oracle.speech(new Oracle().load(Checks.bits(program))).length();
            Checks.due("too long", size > 8192 ? 1 : 0, rows > 3 ? 1 : 0);
            Checks.due("rows " + rows, x.speak(), size > 8192 ? -1 : size);
            Checks.due("OUT", x.look(8), size > 8192 ? 0 : size);
        }
    }

    /** Each COMP behind a WITNESS gets a UNIT behind it: 2048 bits are forgotten. */
    private static String[] forgetting(String[] told, int rows) {
        int first = told.length;
        java.util.List<String> all = new java.util.ArrayList<>(java.util.Arrays.asList(told));
        all.add("8");
        all.add("0 2 1");
        int before = all.size() - 1;
        for (int i = 1; i < rows; i++) {
            int at = all.size();
            all.add("10");
            all.add("0 1 " + (at + 1 - 16));
            all.add("0 1 " + (at + 2 - first));
            all.add("2 " + (at + 3 - before) + " 1");
            before = at + 3;
        }
        return all.toArray(new String[0]);
    }

    private static void saysTheSame() {
        for (String speech : new String[] {"a = unit", "a = comp witness 00001111 jet 92", "a = case unit hidden "
            + "0".repeat(63) + "1", "b = left unit a = pair b pair b new b"}) {
            House x = House.of(speech);
            x.write();
            byte[] before = x.outBytes();
            x.speak();
            x.again();
            Checks.due("say", x.say(), 0);
            Checks.due("the same", x.outBytes(), before);
        }
    }

    private static void nothingElse() {
        House x = House.of("a = comp witness 00001111 jet 92");
        x.run(100, 100, false);
        x.say("a = b");
        x.load("1");
        x.feed(5, 77);
        String[] before = x.state().split(" ");
        Checks.due("speak", x.speak() > 0);
        String[] behind = x.state().split(" ");
        for (int i : new int[] {8, 15, 16}) {
            before[i] = behind[i];
        }
        Checks.due("state", String.join(" ", behind), String.join(" ", before));
    }
}

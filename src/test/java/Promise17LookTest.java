/** Promise 17: what look tells, and which whats there are. */
public final class Promise17LookTest {
    private static final int MOST = Integer.MAX_VALUE;

    private Promise17LookTest() {
    }

    public static void main(String[] args) {
        Checks.test("promise 17: another what", Promise17LookTest::wrongWhat);
        Checks.test("promise 17: 0 to 6 without a program", Promise17LookTest::without);
        Checks.test("promise 17: 0 to 6 with one", Promise17LookTest::program);
        Checks.test("promise 17: 3 and 4, with source, target and 2", Promise17LookTest::bounds);
        Checks.test("promise 17: 5, none above 2147483647", Promise17LookTest::most);
        Checks.test("promise 17: 7 and 8, bytes of the tape and of OUT", Promise17LookTest::bytes);
        Checks.test("promise 17: 9, the latest load's error", Promise17LookTest::error);
        Checks.test("promise 17: 10, runs that gave a value", Promise17LookTest::runs);
        Checks.test("promise 17: 11 to 13, used by the latest that was not defined", Promise17LookTest::used);
        Checks.test("promise 17: 11 to 13, without CASE those of the bounds", Promise17LookTest::usedByAll);
        Checks.test("promise 17: 11 to 13, of CASE the child that was worked", Promise17LookTest::usedByCase);
        Checks.test("promise 17: 11 to 13, a node that is worked several times", Promise17LookTest::usedManyTimes);
        Checks.test("promise 17: 11 to 13, of any program", Promise17LookTest::usedOfAny);
        Checks.test("promise 17: 14, the latest speech's place", Promise17LookTest::place);
        Checks.test("promise 17: look changes nothing", Promise17LookTest::nothing);
        Checks.end();
    }

    private static void wrongWhat() {
        House x = new House();
        House y = House.of("a = unit");
        for (int what : new int[] {-1, -2, 15, 16, 100, MOST, Integer.MIN_VALUE}) {
            Checks.dueThrows("look " + what, IllegalArgumentException.class, () -> x.look(what));
            Checks.dueThrows("look " + what, IllegalArgumentException.class, () -> y.look(what));
        }
        Checks.dueRefused("look 15", y, IllegalArgumentException.class, () -> y.look(15));
        Checks.dueRefused("look -1", y, IllegalArgumentException.class, () -> y.look(-1));
    }

    private static void without() {
        House x = new House();
        for (int i = 0; i <= 6; i++) {
            Checks.due("look " + i, x.look(i), 0);
        }
        Checks.due("say", x.say("a = comp witness 00000000 jet 92"), 0);
        Checks.due("load", x.load("1"), 1);
        Checks.due("load", x.load(Bits.witnessed("0000000", "10", "12 92", "0 2 1")), 10);
        for (int i = 0; i <= 6; i++) {
            Checks.due("look " + i, x.look(i), 0);
        }
    }

    private static void program() {
        House x = House.of("a = comp (pair jet 92 (comp witness 00000011 jet 92)) jet 28");
        int[] want = {6, 8, 16, 8 + 16 + 16 + 8, 4, 0, 8};
        want[5] = 17 + (9 + 17 + 1) + 1 + 33 + 1;
        for (int i = 0; i <= 6; i++) {
            Checks.due("look " + i, x.look(i), want[i]);
        }
        House y = House.ofBits(Bits.program("7"));
        int[] least = {1, 0, 0, 0, 2, 1, 0};
        for (int i = 0; i <= 6; i++) {
            Checks.due("look " + i, y.look(i), least[i]);
        }
        String[] told = new String[400];
        told[0] = "8";
        for (int i = 1; i < 400; i++) {
            told[i] = "4 1";
        }
        House z = House.ofBits(Bits.program(told));
        int[] many = {400, 0, 399, 399, 2, 400, 0};
        for (int i = 0; i <= 6; i++) {
            Checks.due("look " + i, z.look(i), many[i]);
        }
    }

    private static void bounds() {
        House x = House.of("a = jet 4");
        Checks.due("cells", x.look(3), 17 + 9);
        Checks.due("cells of the node", x.node(0, 5), 0);
        Checks.due("frames", x.look(4), 2);
        Checks.due("steps", x.look(5), x.node(0, 7));
        House y = House.of("a = comp jet 92 (comp jet 92 jet 92)");
        Checks.due("cells", y.look(3), 16 + 8 + 8);
        Checks.due("cells of the node", y.node(y.look(0) - 1, 5), 16);
        Checks.due("frames", y.look(4), 4);
        Checks.due("steps", y.look(5), 17 * 3 + 2);
        // the widest: 2048 bits to 2048 bits
        House z = House.ofBits(Bits.program("12 95", "5 1", "6 2", "2 2 1", "5 1", "6 2", "2 2 1", "5 1", "6 2", "2 2 1",
                "5 1", "6 2", "2 2 1", "5 1", "6 2", "2 2 1"));
        Checks.due("source", z.look(1), 2048);
        Checks.due("target", z.look(2), 2048);
        Checks.due("cells", z.look(3), 4096);
    }

    private static void most() {
        for (long wanted : new long[] {2147483646L, 2147483647L, 2147483648L, 4294967295L, 4294967296L, 1L << 40}) {
            Checks.due("steps " + wanted, House.ofBits(Rows.steps(wanted)).look(5), Math.min(wanted, MOST));
        }
    }

    private static void bytes() {
        House x = new House();
        x.feed(3, 0);
        Checks.due("tape", x.look(7), 3);
        x.feed(8, 0);
        Checks.due("tape", x.look(7), 11);
        x.wipe();
        Checks.due("tape", x.look(7), 0);
        Checks.due("say", x.say("a = unit"), 0);
        Checks.due("tape", x.look(7), 0);
        Checks.due("OUT", x.look(8), 1);
        x.again();
        Checks.due("tape", x.look(7), 1);
        x.load();
        Checks.due("tape", x.look(7), 0);
        Checks.due("OUT", x.look(8), 1);
        x.speak();
        Checks.due("OUT", x.look(8), 10);
        x.run(1, 1, false);
        Checks.due("OUT", x.look(8), 0);
        House y = Rows.tapeOf(8189);
        y.feed(3, 0);
        Checks.due("tape", y.look(7), 8192);
        Checks.due("OUT", y.look(8), 8189);
    }

    private static void error() {
        House x = new House();
        Checks.due("before", x.look(9), 0);
        Checks.due("load", x.load(), 1);
        Checks.due("error", x.look(9), 1);
        Checks.due("load", x.load(Bits.program("8", "7")), 5);
        Checks.due("error", x.look(9), 5);
        Checks.due("load", x.load(Bits.program("8")), 0);
        Checks.due("none", x.look(9), 0);
        Checks.due("load", x.load(Bits.program("8") + "1"), 12);
        Checks.due("error", x.look(9), 12);
        // not by other calls
        Checks.due("say", x.say("a = comp unit jet 0"), 8);
        Checks.due("run", x.run(1, 1, false), 0);
        Checks.due("error", x.look(9), 12);
        Checks.due("say", x.say("a = unit"), 0);
        Checks.due("error", x.look(9), 12);
    }

    private static void runs() {
        House x = House.of("a = comp (pair iden unit) case (take unit) (take fail)");
        Checks.due("before", x.look(10), 0);
        Checks.due("a value", x.run("0", false), 0);
        Checks.due("runs", x.look(10), 1);
        Checks.due("a value, defined", x.run("0", true), 0);
        Checks.due("runs", x.look(10), 2);
        Checks.due("fails", x.run("1", false), -1);
        Checks.due("fails, defined", x.run("1", true), -1);
        Checks.due("no value", x.run("", false), -4);
        x.feed(1, 0);
        Checks.due("too few", x.run(1, 1, true), -2);
        Checks.dueThrows("refused", IllegalArgumentException.class, () -> x.run(0, 1, false));
        Checks.due("runs", x.look(10), 2);
        Checks.due("load", x.load(Bits.program("8")), 0);
        Checks.due("runs", x.look(10), 2);
        Checks.due("another program", x.run(1, 1, false), 0);
        Checks.due("runs", x.look(10), 3);
        for (int i = 4; i <= 150; i++) {
            x.run(1, 1, i % 2 == 0);
        }
        Checks.due("runs", x.look(10), 150);
    }

    private static void used(House x, int cells, int frames, int steps) {
        Checks.due("cells", x.look(11), cells);
        Checks.due("frames", x.look(12), frames);
        Checks.due("steps", x.look(13), steps);
    }

    private static void used() {
        House x = House.of("a = comp jet 92 (comp jet 92 jet 92)");
        used(x, 0, 0, 0);
        x.feed(1, 0);
        Checks.due("defined", x.run(100, 100, true), 1);
        used(x, 0, 0, 0);
        x.feed(1, 0);
        Checks.due("not defined", x.run(100, 100, false), 1);
        used(x, 32, 4, 53);
        Checks.due("no value", x.run(100, 100, false), -4);
        used(x, 32, 4, 53);
        x.feed(1, 0);
        Checks.due("too few", x.run(1, 1, false), -2);
        used(x, 32, 4, 53);
        House y = House.of("a = unit");
        Checks.due("run", y.run(1, 1, false), 0);
        used(y, 0, 2, 1);
        House z = House.of("a = comp unit (comp iden unit)");
        Checks.due("run", z.run(100, 100, false), 0);
        used(z, 0, 4, 5);
    }

    private static void usedByAll() {
        String[] speeches = {"a = unit", "a = iden", "a = witness -", "a = jet 123", "a = comp witness 00001111 jet 92",
            "a = comp jet 120 iden", "a = left jet 120", "a = right jet 120", "a = take jet 120", "a = drop jet 120",
            "a = pair jet 120 jet 123", "a = pair (comp jet 123 unit) comp unit jet 120", "a = comp unit unit",
            "a = comp (comp jet 123 unit) comp jet 120 (comp iden unit)", "a = pair unit witness -",
            "a = comp pair jet 120 jet 120 (comp jet 0 drop jet 92)", "a = comp (pair left unit unit) case unit unit"};
        int[][] want = {{0, 2, 1}, {0, 2, 1}, {0, 2, 1}, {64, 2, 65}, {16, 3, 27}, {16, 3, 19}, {9, 2, 10}, {9, 2, 10},
            {8, 2, 10}, {8, 2, 10}, {72, 2, 75}, {72, 3, 67 + 11 + 1}, {0, 3, 3}, {64, 5, 67 + (9 + (9 + 1 + 1) + 1) + 1},
            {0, 2, 3}, {8 + 16 + 9, 4, 19 + (26 + 18 + 1) + 1}, {1, 3, 1 + 4 + 2}};
        for (int i = 0; i < speeches.length; i++) {
            House x = House.of(speeches[i]);
            Checks.due("bounds of " + speeches[i], x.look(3) + " " + x.look(4) + " " + x.look(5),
                    want[i][0] + " " + want[i][1] + " " + want[i][2]);
            Checks.due("run", x.run(1000, 1000, false) >= 0);
            used(x, want[i][0], want[i][1], want[i][2]);
        }
    }

    private static void usedByCase() {
        // left: nothing more; right: a COMP of 64 bits
        House x = House.of("a = comp (pair iden unit) case (take unit) (take comp (comp unit jet 123) unit)");
        int base = x.look(1);
        Checks.due("source", base, 1);
        Checks.due("left", x.run("0", false), 0);
        // COMP, PAIR, IDEN of 1 bit, UNIT; CASE, TAKE, UNIT
        used(x, 1 + 1, 3, 1 + 1 + 2 + 1 + 1 + 1 + 1);
        Checks.due("right", x.run("1", false), 0);
        used(x, 1 + 1 + 64, 5, 1 + 1 + 2 + 1 + 1 + 1 + (1 + (1 + 1 + 65) + 1));
        Checks.due("bounds", x.look(3) + " " + x.look(4) + " " + x.look(5), "66 5 76");
        Checks.due("left again", x.run("0", false), 0);
        used(x, 2, 3, 8);
        Checks.due("right, defined", x.run("1", true), 0);
        used(x, 2, 3, 8);
    }

    private static void usedManyTimes() {
        // the same CASE for each of two bits: by what it then did
        House x = House.of("f = comp (pair iden unit) case (take unit) (take comp (comp unit jet 123) unit) "
                + "a = pair take f drop f");
        int[] want = {8 + 8 + 3, 76 + 8 + 3, 8 + 76 + 3, 76 + 76 + 3};
        String[] in = {"00", "10", "01", "11"};
        for (int i = 0; i < 4; i++) {
            Checks.due("run", x.run(in[i], false), 0);
            Checks.due("steps of " + in[i], x.look(13), want[i]);
            Checks.due("cells of " + in[i], x.look(11), i == 0 ? 2 + 1 : 2 + 65);
            Checks.due("frames of " + in[i], x.look(12), i == 0 ? 3 : 5);
        }
        House y = House.ofBits(Rows.steps(1000000));
        Checks.due("run", y.run(1000000, 1, false), 0);
        used(y, 0, 2, 1000000);
    }

    private static void usedOfAny() {
        House x = House.of("a = comp jet 92 (comp jet 92 jet 92)");
        x.feed(1, 0);
        Checks.due("run", x.run(100, 100, false), 1);
        Checks.due("load", x.load(Bits.program("9")), 0);
        used(x, 32, 4, 53);
        Checks.due("fails", x.run(10, 10, false), -1);
        used(x, 32, 4, 53);
        Checks.due("load", x.load(Bits.program("8")), 0);
        Checks.due("defined", x.run(10, 10, true), 0);
        used(x, 32, 4, 53);
        Checks.due("not defined", x.run(10, 10, false), 0);
        used(x, 0, 2, 1);
    }

    private static void place() {
        House x = new House();
        Checks.due("before", x.look(14), 0);
        Checks.due("say", x.say("abc = unit d ="), 1);
        Checks.due("the text's end", x.look(14), 14);
        Checks.due("load", x.load("1"), 1);
        Checks.due("stays", x.look(14), 14);
        Checks.due("say", x.say("abc = d"), 2);
        Checks.due("place", x.look(14), 6);
        Checks.due("say", x.say("a = witness 1"), 10);
        Checks.due("0", x.look(14), 0);
        Checks.due("say", x.say("abc = d"), 2);
        Checks.due("say", x.say("a = " + "take ".repeat(400) + "unit"), 4);
        Checks.due("0", x.look(14), 0);
        Checks.due("say", x.say("abc = d"), 2);
        Checks.due("say", x.say("a = unit"), 0);
        Checks.due("0", x.look(14), 0);
        Checks.due("say", x.say(" ="), 1);
        Checks.due("1", x.look(14), 1);
    }

    private static void nothing() {
        House x = House.of("a = comp witness 00001111 jet 92");
        x.run(100, 100, false);
        x.feed(2, 9);
        String first = x.state();
        Checks.due("the same twice", x.state(), first);
    }
}

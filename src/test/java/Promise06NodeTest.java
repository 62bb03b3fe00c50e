import java.util.NoSuchElementException;

/** Promise 6: what is told of a node, its bounds among it, and where there is no such node or what. */
public final class Promise06NodeTest {
    private static final int MOST = Integer.MAX_VALUE;
    private static final String H = "hidden " + "0".repeat(64);

    private Promise06NodeTest() {
    }

    public static void main(String[] args) {
        Checks.test("promise 6: no such node", Promise06NodeTest::noNode);
        Checks.test("promise 6: no such what", Promise06NodeTest::noWhat);
        Checks.test("promise 6: code, children and number", Promise06NodeTest::children);
        Checks.test("promise 6: a HIDDEN one", Promise06NodeTest::hidden);
        Checks.test("promise 6: a JET's number, the first and the last", Promise06NodeTest::jets);
        Checks.test("promise 6: widths from 0 to 2048", Promise06NodeTest::widths);
        Checks.test("promise 6: what stays open is ONE", Promise06NodeTest::open);
        Checks.test("promise 6: bounds of nodes without children", Promise06NodeTest::leaves);
        Checks.test("promise 6: bounds of nodes with one child", Promise06NodeTest::oneChild);
        Checks.test("promise 6: bounds of CASE, the greater ones", Promise06NodeTest::cases);
        Checks.test("promise 6: bounds of CASE, without HIDDEN ones", Promise06NodeTest::hiddenCases);
        Checks.test("promise 6: bounds of PAIR", Promise06NodeTest::pairs);
        Checks.test("promise 6: bounds of COMP", Promise06NodeTest::comps);
        Checks.test("promise 6: an earlier program's are gone", Promise06NodeTest::earlier);
        Checks.test("promise 6: no bound above 2147483647", Promise06NodeTest::most);
        Checks.test("promise 6: bounds that would wrap around", Promise06NodeTest::wrap);
        Checks.end();
    }

    private static void row(House x, int i, int... want) {
        for (int k = 0; k < want.length; k++) {
            Checks.due("node " + i + ", " + k, x.node(i, k), want[k]);
        }
    }

    private static void bounds(House x, int i, int cells, int frames, int steps) {
        Checks.due("cells of " + i, x.node(i, 5), cells);
        Checks.due("frames of " + i, x.node(i, 6), frames);
        Checks.due("steps of " + i, x.node(i, 7), steps);
    }

    private static void noNode() {
        House x = House.ofBits(Bits.program("8", "3 1", "3 1"));
        Checks.due("node 0", x.node(0, 0), 8);
        Checks.due("node 2", x.node(2, 0), 3);
        for (int i : new int[] {-1, 3, 4, 399, 400, 401, MOST, Integer.MIN_VALUE}) {
            for (int what = 0; what <= 7; what++) {
                int asked = what;
                Checks.dueThrows("node " + i, NoSuchElementException.class, () -> x.node(i, asked));
            }
        }
        Checks.dueRefused("node 3", x, NoSuchElementException.class, () -> x.node(3, 0));
        // nodes of a longer program, or of one that was only read in part, are gone
        Checks.due("load", x.load(Bits.program("7")), 0);
        Checks.dueThrows("node 1", NoSuchElementException.class, () -> x.node(1, 0));
        Checks.due("load", x.load(Bits.nodes("8", "3 1", "3 1") + "1111"), 1);
        Checks.dueThrows("node 1", NoSuchElementException.class, () -> x.node(1, 0));
        Checks.due("say", x.say("a = left left unit"), 0);
        Checks.dueThrows("node 1", NoSuchElementException.class, () -> x.node(1, 0));
    }

    private static void noWhat() {
        House x = House.ofBits(Bits.program("8", "11", "1 2 1"));
        for (int what : new int[] {-1, 8, 9, 15, MOST, Integer.MIN_VALUE}) {
            for (int i = 0; i < 3; i++) {
                int node = i;
                Checks.dueThrows("what " + what, NoSuchElementException.class, () -> x.node(node, what));
            }
            Checks.dueThrows("neither", NoSuchElementException.class, () -> x.node(3, what));
            Checks.dueThrows("without a program", NoSuchElementException.class, () -> new House().node(0, what));
        }
        Checks.dueRefused("what 8", x, NoSuchElementException.class, () -> x.node(0, 8));
    }

    private static void children() {
        // each kind, in the order that 5 asks for
        House x = House.of("u = unit p = pair iden (pair u (pair witness - fail)) d = drop take right left p "
                + "c = case d (" + H + ") q = comp c comp unit jet 120");
        String[] want = {"7 -1 -1", "8 -1 -1", "10 -1 -1", "9 -1 -1", "2 2 3", "2 1 4", "2 0 5", "3 6 -1", "4 7 -1",
            "5 8 -1", "6 9 -1", "11 -1 -1", "1 10 11", "8 -1 -1", "12 120 -1", "0 13 14", "0 12 15"};
        Checks.due("nodes", x.look(0), want.length);
        for (int i = 0; i < want.length; i++) {
            Checks.due("node " + i, x.node(i, 0) + " " + x.node(i, 1) + " " + x.node(i, 2), want[i]);
        }
        // children that are the same one, the one before, and node 0
        House y = House.ofBits(Bits.program("8", "3 1", "2 1 1", "2 1 3"));
        row(y, 2, 2, 1, 1, 0, 2);
        row(y, 3, 2, 2, 0, 0, 2);
    }

    private static void hidden() {
        House x = House.ofBits(Bits.program("8", "11 1", "1 2 1", "11 9", "1 4 1", "2 3 1"));
        row(x, 1, 11, -1, -1, -1, -1, 0, 0, 0);
        row(x, 3, 11, -1, -1, -1, -1, 0, 0, 0);
        row(x, 2, 1, 0, 1, 1, 0, 0, 0, 2);
        row(x, 4, 1, 0, 3, 1, 0, 0, 0, 2);
        row(x, 5, 2, 2, 4, 1, 0, 0, 0, 5);
    }

    private static void jets() {
        for (int number : new int[] {0, 1, 127, 128, 166, 167}) {
            House x = House.ofBits(Bits.program("12 " + number, "5 1"));
            Checks.due("code", x.node(0, 0), 12);
            Checks.due("number", x.node(0, 1), number);
            Checks.due("second", x.node(0, 2), -1);
            Checks.due("the child of TAKE", x.node(1, 1), 0);
        }
    }

    private static void widths() {
        String[] told = new String[13];
        told[0] = "8";
        told[1] = "3 1";
        for (int i = 2; i < 13; i++) {
            told[i] = "2 1 1";
        }
        House x = House.ofBits(Bits.program(told));
        Checks.due("width 0", x.node(0, 4), 0);
        for (int i = 1; i < 13; i++) {
            Checks.due("target", x.node(i, 4), 1 << i - 1);
            Checks.due("source", x.node(i, 3), 0);
        }
        Checks.due("the widest", x.node(12, 4), 2048);
        // 1 and the greater one of both
        House y = House.of("f = comp (pair iden unit) case (take comp jet 92 unit) (take comp jet 95 unit)");
        Checks.due("of a sum", y.look(1), 65);
        House z = House.of("f = comp (pair iden unit) case (take comp jet 95 unit) (take comp jet 92 unit)");
        Checks.due("of a sum", z.look(1), 65);
        House v = House.of("f = comp (pair iden unit) case (take comp jet 92 unit) (take comp jet 92 unit)");
        Checks.due("of a sum", v.look(1), 9);
        House w = House.of("a = take comp jet 92 unit");
        Checks.due("of a pair with ONE", w.look(1), 8);
        House p = House.of("a = pair (take comp jet 92 unit) drop comp jet 94 unit");
        Checks.due("of a pair", p.look(1), 40);
    }

    private static void open() {
        for (String speech : new String[] {"a = iden", "a = unit", "a = fail", "a = witness -", "a = take iden",
            "a = drop fail", "a = pair iden iden"}) {
            House x = House.of(speech);
            int last = x.look(0) - 1;
            Checks.due("source of " + speech, x.node(last, 3), 0);
            Checks.due("target of " + speech, x.node(last, 4), 0);
        }
        Checks.due("left", House.of("a = left unit").look(2), 1);
        Checks.due("right", House.of("a = right left unit").look(2), 2);
        Checks.due("case", House.of("a = case unit unit").look(1), 1);
        Checks.due("case of a HIDDEN one", House.of("a = case unit " + H).look(1), 1);
    }

    private static void leaves() {
        // all of WORD 8 > WORD 16 or so: widths that count are those that are told
        House x = House.of("a = pair (comp iden jet 92) (pair (comp unit unit) (pair (comp fail jet 93) "
                + "(comp witness 0000000000000000 jet 93)))");
        int nodes = x.look(0);
        for (int i = 0; i < nodes; i++) {
            int code = x.node(i, 0);
            if (code >= 7) {
                int own = code == 7 ? x.node(i, 3) : code == 10 ? x.node(i, 4) : code == 12 ? x.node(i, 3) + x.node(i, 4) : 0;
                bounds(x, i, 0, 0, 1 + own);
            }
        }
        House iden = House.of("a = comp jet 92 iden");
        bounds(iden, 1, 0, 0, 9);
        House unit = House.of("a = comp jet 92 unit");
        bounds(unit, 1, 0, 0, 1);
        House fail = House.of("a = comp jet 92 (comp fail jet 95)");
        Checks.due("fail", fail.node(1, 0), 9);
        bounds(fail, 1, 0, 0, 1);
        Checks.due("source", fail.node(1, 3), 8);
        Checks.due("target", fail.node(1, 4), 64);
        House witness = House.of("a = comp jet 95 (comp witness 00000000 jet 92)");
        Checks.due("witness", witness.node(1, 0), 10);
        Checks.due("source", witness.node(1, 3), 64);
        bounds(witness, 1, 0, 0, 9);
        House jet = House.of("a = jet 3");
        bounds(jet, 0, 0, 0, 1 + 128 + 65);
    }

    private static void oneChild() {
        for (String word : new String[] {"left", "right", "take", "drop"}) {
            House x = House.of("a = " + word + " comp jet 92 jet 92");
            int last = x.look(0) - 1;
            bounds(x, last - 1, 8, 1, 17 + 17 + 1);
            bounds(x, last, 8, 1, 17 + 17 + 2);
        }
    }

    /** One child has more cells, the other one more frames, or more steps. */
    private static void cases() {
        String wide = "w = comp jet 95 jet 95 ";
        String deep = "d = comp iden comp iden comp iden iden ";
        House x = House.of(wide + deep + "a = case (take comp w unit) (take d)");
        int last = x.look(0) - 1;
        int s = x.node(last, 1);
        int t = x.node(last, 2);
        Checks.due("cells of both", x.node(s, 5) > x.node(t, 5));
        Checks.due("frames of both", x.node(s, 6) < x.node(t, 6));
        Checks.due("steps of both", x.node(s, 7) > x.node(t, 7));
        bounds(x, last, x.node(s, 5), x.node(t, 6), x.node(s, 7) + 1);
        House y = House.of(wide + deep + "a = case (take d) (take comp w unit)");
        last = y.look(0) - 1;
        s = y.node(last, 1);
        t = y.node(last, 2);
        bounds(y, last, y.node(t, 5), y.node(s, 6), y.node(t, 7) + 1);
        House z = House.of("a = case unit unit");
        bounds(z, 1, 0, 0, 2);
    }

    private static void hiddenCases() {
        House x = House.of("a = case (take comp jet 92 jet 92) " + H);
        int last = x.look(0) - 1;
        bounds(x, last, 8, 1, 35 + 2);
        House y = House.of("a = case " + H + " (take comp jet 92 jet 92)");
        last = y.look(0) - 1;
        bounds(y, last, 8, 1, 35 + 2);
        House z = House.of("a = case unit " + H);
        bounds(z, 2, 0, 0, 2);
    }

    private static void pairs() {
        House x = House.of("s = comp jet 92 jet 92 a = pair s iden");
        int last = x.look(0) - 1;
        bounds(x, last, 8, 1, 35 + 9 + 1);
        House y = House.of("s = comp jet 95 jet 95 t = comp iden (comp iden unit) a = pair s t");
        last = y.look(0) - 1;
        int first = y.node(last, 1);
        int second = y.node(last, 2);
        bounds(y, first, 64, 1, 129 + 129 + 1);
        bounds(y, second, 128, 2, 65 + 65 + 1 + 2);
        bounds(y, last, 128, 2, 259 + 133 + 1);
        House z = House.of("s = comp jet 95 jet 95 t = comp iden (comp iden unit) a = pair t s");
        bounds(z, z.look(0) - 1, 128, 2, 259 + 133 + 1);
        House u = House.of("a = pair unit unit");
        bounds(u, 1, 0, 0, 3);
    }

    private static void comps() {
        // 9 bits between; then 64 between jets of 64 bits below the second child
        House x = House.of("a = comp jet 0 (drop jet 92)");
        bounds(x, x.look(0) - 1, 9, 1, 26 + 18 + 1);
        House y = House.of("a = comp jet 92 (comp unit (comp jet 123 unit))");
        bounds(y, y.look(0) - 1, 8 + 0 + 64, 3, 17 + (1 + (65 + 1 + 1) + 1) + 1);
        // the greater ones are the first child's
        House z = House.of("a = comp (comp jet 123 unit) jet 120");
        bounds(z, z.look(0) - 1, 0 + 64, 2, (65 + 1 + 1) + 9 + 1);
        // cells of one, frames of the other
        House v = House.of("a = comp (comp jet 123 unit) (comp iden comp iden iden)");
        bounds(v, v.look(0) - 1, 64, 3, 67 + 5 + 1);
        // no bits between are no cells, but a frame
        House u = House.of("a = comp unit fail");
        bounds(u, 2, 0, 1, 3);
    }

    /** Loads several programs in turn: what the same numbers told before does not come back. */
    private static void earlier() {
        String[] programs = {Bits.program("12 123", "8", "0 2 1", "3 1", "4 1", "2 1 2"),
            Bits.program("8", "3 1", "9", "2 2 1", "3 1", "4 1"), Bits.program("10", "3 1", "10", "2 2 1", "3 1", "4 1")};
        int[][][] want = {{{0, 0, 65}, {0, 0, 1}, {64, 1, 67}, {64, 1, 68}, {64, 1, 69}, {64, 1, 138}},
            {{0, 0, 1}, {0, 0, 2}, {0, 0, 1}, {0, 0, 4}, {0, 0, 5}, {0, 0, 6}},
            {{0, 0, 1}, {0, 0, 2}, {0, 0, 1}, {0, 0, 4}, {0, 0, 5}, {0, 0, 6}}};
        House x = new House();
        for (int which : new int[] {0, 1, 2, 0, 0, 1, 1, 2, 0, 2, 1, 0}) {
            Checks.due("load", x.load(programs[which]), 0);
            for (int i = 0; i < 6; i++) {
                bounds(x, i, want[which][i][0], want[which][i][1], want[which][i][2]);
            }
        }
        Checks.due("types too", x.node(0, 4) + " " + x.node(1, 3) + " " + x.node(5, 4), "64 64 3");
    }

    private static void most() {
        long[] near = {2147483645L, 2147483646L, 2147483647L, 2147483648L, 2147483649L, 4294967295L, 4294967296L,
            4294967297L, 6442450944L};
        for (long wanted : near) {
            House x = House.ofBits(Rows.steps(wanted));
            int last = x.look(0) - 1;
            int due = wanted > MOST ? MOST : (int) wanted;
            Checks.due("steps " + wanted, x.node(last, 7), due);
            Checks.due("the program's", x.look(5), due);
            bounds(x, last, 0, 0, due);
        }
        // of those that are cut: one step more, the greater one, both
        String[] told = java.util.Arrays.copyOf(Rows.pairNodes(33), 37);
        told[33] = "5 1";
        told[34] = "1 1 1";
        told[35] = "0 1 35";
        told[36] = "3 1";
        House x = House.ofBits(Bits.program(told));
        for (int i = 31; i < 37; i++) {
            Checks.due("steps of " + i, x.node(i, 7), MOST);
        }
        Checks.due("steps of 29", x.node(29, 7), 1073741823);
        Checks.due("steps of 30", x.node(30, 7), MOST);
    }

    private static void wrap() {
        House x = House.ofBits(Bits.program(Rows.pairNodes(400)));
        for (int i = 30; i < 400; i++) {
            Checks.due("steps of " + i, x.node(i, 7), MOST);
        }
        Checks.due("cells", x.node(399, 5), 0);
        Checks.due("frames", x.node(399, 6), 0);
    }
}

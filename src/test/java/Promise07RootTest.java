import java.util.NoSuchElementException;

/** Promise 7: word k of node i's root, and where there is none. */
public final class Promise07RootTest {
    private static final int[] ZEROS = new int[8];

    private Promise07RootTest() {
    }

    public static void main(String[] args) {
        Checks.test("promise 7: no such node", Promise07RootTest::noNode);
        Checks.test("promise 7: no such word", Promise07RootTest::noWord);
        Checks.test("promise 7: 0 to 2^32 - 1", Promise07RootTest::range);
        Checks.test("promise 7: a known root", Promise07RootTest::known);
        Checks.test("promise 7: HIDDEN, its bits", Promise07RootTest::hidden);
        Checks.test("promise 7: without children", Promise07RootTest::leaves);
        Checks.test("promise 7: JET, 32 and its number", Promise07RootTest::jets);
        Checks.test("promise 7: with one child", Promise07RootTest::oneChild);
        Checks.test("promise 7: with two children", Promise07RootTest::twoChildren);
        Checks.test("promise 7: types and witness bits do not count", Promise07RootTest::withoutTypes);
        Checks.test("promise 7: a HIDDEN one stands for what has its bits as root", Promise07RootTest::pruned);
        Checks.test("promise 7: each node of a program with all kinds", Promise07RootTest::allKinds);
        Checks.test("promise 7: of the loaded program alone", Promise07RootTest::ofTheLoaded);
        Checks.test("promise 7: 400 nodes", Promise07RootTest::deepest);
        Checks.end();
    }

    private static void due(String what, House x, int i, int[] want) {
        for (int k = 0; k < 8; k++) {
            Checks.due("word " + k + " of " + what, x.root(i, k), want[k] & 0xffffffffL);
        }
    }

    private static int[] one(int code, int[] child) {
        return Oracle.compress(Oracle.leaf(code), Oracle.both(ZEROS, child));
    }

    private static int[] two(int code, int[] first, int[] second) {
        return Oracle.compress(Oracle.leaf(code), Oracle.both(first, second));
    }

    private static void noNode() {
        House x = House.ofBits(Bits.program("8", "3 1", "3 1"));
        for (int i : new int[] {-1, 3, 4, 400, Integer.MAX_VALUE, Integer.MIN_VALUE}) {
            Checks.dueThrows("root of " + i, NoSuchElementException.class, () -> x.root(i, 0));
            Checks.dueThrows("root of " + i, NoSuchElementException.class, () -> x.root(i, 7));
        }
        Checks.dueRefused("root of 3", x, NoSuchElementException.class, () -> x.root(3, 0));
        Checks.dueThrows("without a program", NoSuchElementException.class, () -> new House().root(0, 0));
    }

    private static void noWord() {
        House x = House.ofBits(Bits.program("8", "11", "1 2 1"));
        for (int k : new int[] {-1, 8, 9, 15, 16, Integer.MAX_VALUE, Integer.MIN_VALUE}) {
            for (int i = 0; i < 3; i++) {
                int node = i;
                Checks.dueThrows("word " + k, NoSuchElementException.class, () -> x.root(node, k));
            }
        }
        Checks.dueRefused("word 8", x, NoSuchElementException.class, () -> x.root(0, 8));
    }

    private static void range() {
        House x = House.ofBits(Bits.program(Rows.pairNodes(50)));
        int high = 0;
        for (int i = 0; i < 50; i++) {
            for (int k = 0; k < 8; k++) {
                long word = x.root(i, k);
                Checks.due("range of " + word, word >= 0 && word <= 4294967295L);
                high += word >= 2147483648L ? 1 : 0;
            }
        }
        Checks.due("some have the highest bit", high > 100);
    }

    /** As the shared tests have it. */
    private static void known() {
        House x = House.ofBits(Bits.program("8"));
        Checks.due("UNIT", x.root(0, 0), 3911638502L);
    }

    private static void hidden() {
        House x = House.ofBits(Bits.program("8", "11 1", "1 2 1"));
        for (int k = 0; k < 8; k++) {
            Checks.due("all bits 1", x.root(1, k), 4294967295L);
        }
        House y = House.ofBits(Bits.program("8", "11", "1 2 1"));
        for (int k = 0; k < 8; k++) {
            Checks.due("all bits 0", y.root(1, k), 0);
        }
        StringBuilder bits = new StringBuilder();
        for (int k = 0; k < 8; k++) {
            bits.append(Bits.number(0x80000001L + 0x01020304L * k, 32));
        }
        House z = House.ofBits(Bits.natural(3) + Bits.node("8") + Bits.number(11, 5) + bits + Bits.node("1 2 1") + "0");
        for (int k = 0; k < 8; k++) {
            Checks.due("the first word highest", z.root(1, k), 0x80000001L + 0x01020304L * k);
        }
    }

    private static void leaves() {
        for (int code = 7; code <= 10; code++) {
            due("code " + code, House.ofBits(Bits.program("" + code)), 0, Oracle.leaf(code));
        }
    }

    private static void jets() {
        for (int number : new int[] {0, 1, 92, 127, 128, 166, 167}) {
            due("jet " + number, House.ofBits(Bits.program("12 " + number)), 0, Oracle.leaf(32 + number));
        }
    }

    private static void oneChild() {
        for (int code = 3; code <= 6; code++) {
            House x = House.ofBits(Bits.program("8", code + " 1", code + " 1"));
            int[] child = one(code, Oracle.leaf(8));
            due("code " + code, x, 1, child);
            due("code " + code + " twice", x, 2, one(code, child));
        }
    }

    private static void twoChildren() {
        for (int code = 0; code <= 2; code++) {
            House x = House.ofBits(Bits.program("9", "8", code + " 2 1"));
            due("code " + code, x, 2, two(code, Oracle.leaf(9), Oracle.leaf(8)));
            House y = House.ofBits(Bits.program("8", "9", code + " 2 1"));
            due("code " + code + " the other way", y, 2, two(code, Oracle.leaf(8), Oracle.leaf(9)));
            House z = House.ofBits(Bits.program("9", code + " 1 1"));
            due("code " + code + " of the same", z, 1, two(code, Oracle.leaf(9), Oracle.leaf(9)));
        }
    }

    private static void withoutTypes() {
        House x = House.of("a = comp witness 00000000 jet 92");
        due("witness", x, 0, Oracle.leaf(10));
        House y = House.of("a = comp witness 11111111 jet 92");
        for (int i = 0; i < 3; i++) {
            Checks.due("root with other bits", y.root(i, 0), x.root(i, 0));
        }
        House z = House.of("a = comp jet 92 unit b = pair a unit c = comp b iden d = pair c comp jet 92 iden");
        int nodes = z.look(0);
        for (int i = 0; i < nodes; i++) {
            if (z.node(i, 0) == 7) {
                due("IDEN of any type", z, i, Oracle.leaf(7));
            }
        }
    }

    private static void pruned() {
        String whole = "a = comp (pair iden unit) case (take left unit) (take right unit)";
        House x = House.of(whole);
        int last = x.look(0) - 1;
        int right = -1;
        for (int i = 0; i <= last; i++) {
            if (x.node(i, 0) == 1) {
                right = x.node(i, 2);
            }
        }
        StringBuilder hex = new StringBuilder();
        for (int k = 0; k < 8; k++) {
            hex.append(String.format("%08x", x.root(right, k)));
        }
        House y = House.of("a = comp (pair iden unit) case (take left unit) hidden " + hex);
        for (int k = 0; k < 8; k++) {
            Checks.due("the same root", y.root(y.look(0) - 1, k), x.root(last, k));
        }
    }

    /** Leaves stand behind nodes with children, jets behind both. */
    private static void allKinds() {
        String speech = "u = unit p = pair iden (pair u (pair witness - fail)) d = drop take right left p "
                + "c = case d (hidden " + "0123456789abcdef".repeat(4) + ") q = comp c comp unit jet 120 "
                + "r = pair q (comp unit jet 123) s = pair r fail";
        House x = House.of(speech);
        Oracle.Prog p = new Oracle().load(new Oracle().say(Checks.bytes(speech)));
        Checks.due("nodes", x.look(0), p.nodes.size());
        for (int i = 0; i < p.nodes.size(); i++) {
            due("node " + i, x, i, Oracle.root(p.nodes.get(i)));
        }
        // from the last one on: what is asked first does not matter
        House y = House.of(speech);
        for (int i = p.nodes.size() - 1; i >= 0; i--) {
            Checks.due("word 7 of " + i, y.root(i, 7), Oracle.root(p.nodes.get(i))[7] & 0xffffffffL);
            Checks.due("word 0 of " + i, y.root(i, 0), Oracle.root(p.nodes.get(i))[0] & 0xffffffffL);
        }
    }

    private static void ofTheLoaded() {
        House x = House.ofBits(Bits.program("8", "3 1"));
        due("LEFT", x, 1, one(3, Oracle.leaf(8)));
        Checks.due("load", x.load("1"), 1);
        due("LEFT stays", x, 1, one(3, Oracle.leaf(8)));
        Checks.due("say", x.say("a = right iden"), 0);
        due("LEFT stays", x, 1, one(3, Oracle.leaf(8)));
        Checks.due("load", x.load(Bits.program("7", "4 1")), 0);
        due("RIGHT", x, 1, one(4, Oracle.leaf(7)));
        due("IDEN", x, 0, Oracle.leaf(7));
    }

    private static void deepest() {
        String[] told = new String[400];
        told[0] = "8";
        int[] want = Oracle.leaf(8);
        for (int i = 1; i < 400; i++) {
            told[i] = i % 4 + 3 + " 1";
            want = one(i % 4 + 3, want);
        }
        due("the last", House.ofBits(Bits.program(told)), 399, want);
    }
}

import java.util.NoSuchElementException;

/** Promise 8: word k of the root of node i's source or target; 0 for a HIDDEN node. */
public final class Promise08TypeRootTest {
    private static final int[] ONE = Oracle.leaf(208);
    private static final int[] BIT = sum(ONE, ONE);

    private Promise08TypeRootTest() {
    }

    public static void main(String[] args) {
        Checks.test("promise 8: no such node", Promise08TypeRootTest::noNode);
        Checks.test("promise 8: no such word", Promise08TypeRootTest::noWord);
        Checks.test("promise 8: 0 for a HIDDEN node", Promise08TypeRootTest::hidden);
        Checks.test("promise 8: ONE, sums and products", Promise08TypeRootTest::types);
        Checks.test("promise 8: source and target", Promise08TypeRootTest::bothSides);
        Checks.test("promise 8: 0 to 2^32 - 1", Promise08TypeRootTest::range);
        Checks.test("promise 8: what stays open is ONE", Promise08TypeRootTest::open);
        Checks.test("promise 8: words up to 2048 bits", Promise08TypeRootTest::words);
        Checks.test("promise 8: types that no text has room for", Promise08TypeRootTest::vast);
        Checks.test("promise 8: each node of a program with all kinds", Promise08TypeRootTest::allKinds);
        Checks.test("promise 8: of the loaded program alone", Promise08TypeRootTest::ofTheLoaded);
        Checks.end();
    }

    private static int[] sum(int[] a, int[] b) {
        return Oracle.compress(Oracle.leaf(209), Oracle.both(a, b));
    }

    private static int[] product(int[] a, int[] b) {
        return Oracle.compress(Oracle.leaf(210), Oracle.both(a, b));
    }

    private static void due(String what, House x, int i, boolean target, int[] want) {
        for (int k = 0; k < 8; k++) {
            Checks.due("word " + k + " of " + what, x.typeRoot(i, target, k), want[k] & 0xffffffffL);
        }
    }

    private static void noNode() {
        House x = House.ofBits(Bits.program("8", "3 1", "3 1"));
        for (int i : new int[] {-1, 3, 4, 400, Integer.MAX_VALUE, Integer.MIN_VALUE}) {
            Checks.dueThrows("source of " + i, NoSuchElementException.class, () -> x.typeRoot(i, false, 0));
            Checks.dueThrows("target of " + i, NoSuchElementException.class, () -> x.typeRoot(i, true, 7));
        }
        Checks.dueRefused("source of 3", x, NoSuchElementException.class, () -> x.typeRoot(3, false, 0));
        Checks.dueThrows("without a program", NoSuchElementException.class, () -> new House().typeRoot(0, true, 0));
    }

    private static void noWord() {
        House x = House.ofBits(Bits.program("8", "11", "1 2 1"));
        for (int k : new int[] {-1, 8, 9, 16, Integer.MAX_VALUE, Integer.MIN_VALUE}) {
            for (int i = 0; i < 3; i++) {
                int node = i;
                Checks.dueThrows("word " + k, NoSuchElementException.class, () -> x.typeRoot(node, false, k));
                Checks.dueThrows("word " + k, NoSuchElementException.class, () -> x.typeRoot(node, true, k));
            }
        }
        Checks.dueRefused("word 8", x, NoSuchElementException.class, () -> x.typeRoot(1, true, 8));
    }

    private static void hidden() {
        for (String bits : new String[] {"11", "11 1", "11 77"}) {
            House x = House.ofBits(Bits.program("8", bits, "1 2 1"));
            due("source", x, 1, false, new int[8]);
            due("target", x, 1, true, new int[8]);
        }
    }

    private static void types() {
        House x = House.ofBits(Bits.program("8", "3 1", "4 1", "2 1 2"));
        Checks.due("ONE, as the shared tests have it", x.typeRoot(0, true, 0), 1441525196L);
        due("ONE", x, 0, true, ONE);
        due("ONE + ONE", x, 1, true, BIT);
        due("ONE + BIT", x, 2, true, sum(ONE, BIT));
        due("their product", x, 3, true, product(sum(ONE, BIT), BIT));
        House y = House.ofBits(Bits.program("8", "3 1", "3 1"));
        due("BIT + ONE", y, 2, true, sum(BIT, ONE));
    }

    private static void bothSides() {
        House x = House.ofBits(Bits.program("8", "11", "1 2 1", "3 1"));
        due("source", x, 3, false, product(BIT, ONE));
        due("target", x, 3, true, BIT);
        due("source of UNIT", x, 0, false, product(ONE, ONE));
        due("target of UNIT", x, 0, true, ONE);
        House y = House.of("a = take jet 120 b = drop jet 120");
        due("DROP", y, 1, false, product(ONE, ONE));
    }

    private static void range() {
        House x = House.ofBits(Bits.program(Rows.pairNodes(50)));
        int high = 0;
        for (int i = 0; i < 50; i++) {
            for (int k = 0; k < 8; k++) {
                long word = x.typeRoot(i, true, k);
                Checks.due("range of " + word, word >= 0 && word <= 4294967295L);
                high += word >= 2147483648L ? 1 : 0;
            }
        }
        Checks.due("some have the highest bit", high > 100);
    }

    private static void open() {
        for (int code = 7; code <= 10; code++) {
            House x = House.ofBits(Bits.program("" + code));
            due("source of " + code, x, 0, false, ONE);
            due("target of " + code, x, 0, true, ONE);
        }
    }

    private static void words() {
        String[] told = new String[13];
        told[0] = "8";
        told[1] = "4 1";
        for (int i = 2; i < 13; i++) {
            told[i] = "2 1 1";
        }
        House x = House.ofBits(Bits.program(told));
        int[] want = BIT;
        for (int i = 1; i < 13; i++) {
            due("WORD " + (1 << i - 1), x, i, true, want);
            want = product(want, want);
        }
        House y = House.of("a = jet 123");
        want = BIT;
        for (int i = 0; i < 6; i++) {
            want = product(want, want);
        }
        due("a jet's WORD 64", y, 0, true, want);
    }

    private static void vast() {
        House x = House.ofBits(Bits.program(Rows.pairNodes(400)));
        int[] want = ONE;
        for (int i = 0; i < 400; i++) {
            if (i % 80 == 79 || i < 2 || i == 32 || i == 64) {
                due("2^" + i + " times ONE", x, i, true, want);
            }
            want = product(want, want);
        }
        // a source with 399 parts
        String[] told = new String[400];
        told[0] = "8";
        for (int i = 1; i < 400; i++) {
            told[i] = i % 2 == 0 ? "5 1" : "6 1";
        }
        House y = House.ofBits(Bits.program(told));
        want = ONE;
        for (int i = 1; i < 400; i++) {
            want = i % 2 == 0 ? product(want, ONE) : product(ONE, want);
        }
        due("the last source", y, 399, false, want);
    }

    private static void allKinds() {
        String speech = "u = unit p = pair iden (pair u (pair witness - fail)) d = drop take right left p "
                + "c = case d (hidden " + "0123456789abcdef".repeat(4) + ") q = comp c comp unit jet 120 "
                + "r = pair q (comp unit jet 123) s = comp r take jet 92";
        for (String told : new String[] {speech, "a = comp jet 0 (pair take iden drop jet 92)",
            "a = case jet 0 (comp jet 96 (pair left unit iden))"}) {
            House x = House.of(told);
            Oracle oracle = new Oracle();
            Oracle.Prog p = oracle.load(new Oracle().say(Checks.bytes(told)));
            for (int i = 0; i < p.nodes.size() && x.left() > 20; i++) {
                Oracle.Node n = p.nodes.get(i);
                for (int k = 0; k < 8; k++) {
                    Checks.due("source of " + i, x.typeRoot(i, false, k),
                            n.code == 11 ? 0 : oracle.typeRoot(n.s)[k] & 0xffffffffL);
                    Checks.due("target of " + i, x.typeRoot(i, true, k),
                            n.code == 11 ? 0 : oracle.typeRoot(n.t)[k] & 0xffffffffL);
                }
                // a node's root in between does not spoil the next type's
                Checks.due("root of " + i, x.root(i, i % 8), Oracle.root(n)[i % 8] & 0xffffffffL);
            }
        }
    }

    private static void ofTheLoaded() {
        House x = House.ofBits(Bits.program("8", "3 1"));
        due("LEFT", x, 1, true, BIT);
        Checks.due("load", x.load("1"), 1);
        due("stays", x, 1, true, BIT);
        Checks.due("say", x.say("a = right right iden"), 0);
        due("stays", x, 1, true, BIT);
        Checks.due("load", x.load(Bits.program("8", "3 1", "2 1 1")), 0);
        due("another one", x, 2, true, product(BIT, BIT));
        due("source", x, 2, false, ONE);
    }
}

import java.util.NoSuchElementException;

/** Each promise of the document: ordinary inputs, the edges that it names, and wrong inputs. */
public final class PromiseTest {
    private PromiseTest() {
    }

    public static void main(String[] args) {
        newObject();
        feedAndWipe();
        loadNaturals();
        loadReading();
        loadJudging();
        loadWitness();
        run();
        runLimits();
        runDeep();
        node();
        roots();
        manyHidden();
        type();
        sayForm();
        sayNames();
        sayMany();
        sayJudging();
        sayLong();
        speak();
        again();
        value();
        worth();
        writeAndOut();
        look();
        Checks.end();
    }

    // ---- programs as bits

    /** "12 5" is a JET; "0 2 1" a COMP of what stands two and one ahead; "11" a HIDDEN of 0s. */
    private static String nodes(String... told) {
        StringBuilder s = new StringBuilder(Oracle.naturalBits(told.length));
        for (String t : told) {
            String[] w = t.split(" ");
            s.append(number(Integer.parseInt(w[0]), 5));
            if (w[0].equals("11")) {
                s.append(w.length > 1 ? "1".repeat(256) : "0".repeat(256));
            } else if (w[0].equals("12")) {
                s.append(number(Integer.parseInt(w[1]), 8));
            } else {
                for (int i = 1; i < w.length; i++) {
                    s.append(Oracle.naturalBits(Integer.parseInt(w[i])));
                }
            }
        }
        return s.toString();
    }

    private static String number(int n, int bits) {
        return Oracle.binary(java.math.BigInteger.valueOf(n), bits);
    }

    private static int load(House x, String bits) {
        return Checks.load(x, Checks.bits(bits));
    }

    private static void dueLoad(String bits, int error) {
        House x = new House();
        Checks.due("load " + bits, load(x, bits), error);
        Checks.due("look 9", x.look(9), error);
        Checks.due("tape is used up", x.look(7), 0);
        if (error != 0) {
            Checks.due("no program", x.look(0), 0);
        }
    }

    private static void dueSay(String text, int error, int place) {
        House x = new House();
        Checks.due("say " + shown(text), Checks.say(x, text), error);
        Checks.due("place of " + shown(text), x.look(14), place);
        Checks.due("tape is used up", x.look(7), 0);
        Checks.due("OUT after " + shown(text), x.look(8) > 0 ? 1 : 0, error == 0 ? 1 : 0);
    }

    private static String shown(String text) {
        return text.length() > 120 ? text.substring(0, 120) + ".." : text;
    }

    private static House built(String text) {
        House x = new House();
        if (text.length() < 3500) {
            Checks.due("build " + shown(text), Checks.build(x, text), 0);
        } else {
            // such a speech takes too many calls; its program does not
            Checks.due("load " + shown(text), Checks.load(x, new Oracle().say(Checks.bytes(text))), 0);
        }
        return x;
    }

    private static int run(House x, String bits, boolean defined) {
        Checks.feed(x, Checks.bits(bits));
        return x.run(1000000, 1000000, defined);
    }

    // ---- promise 1

    private static void newObject() {
        House x = new House();
        for (int i = 0; i <= 14; i++) {
            Checks.due("look " + i + " of a new object", x.look(i), 0);
        }
        Checks.dueThrows("out", NoSuchElementException.class, () -> x.out(0));
        Checks.dueThrows("run", IllegalStateException.class, () -> x.run(1, 1, false));
        Checks.dueThrows("run", IllegalArgumentException.class, () -> x.run(0, 1, false));
        Checks.dueThrows("run", IllegalArgumentException.class, () -> x.run(1, 0, true));
        Checks.dueThrows("speak", IllegalStateException.class, x::speak);
        Checks.dueThrows("write", IllegalStateException.class, x::write);
        Checks.dueThrows("node", NoSuchElementException.class, () -> x.node(0, 0));
        Checks.dueThrows("root", NoSuchElementException.class, () -> x.root(0, 0));
        Checks.dueThrows("typeRoot", NoSuchElementException.class, () -> x.typeRoot(0, true, 0));
        Checks.dueThrows("type", NoSuchElementException.class, () -> x.type(0, true));
        Checks.dueThrows("value", NoSuchElementException.class, () -> x.value(0, true));
        Checks.dueThrows("worth", NoSuchElementException.class, () -> x.worth(0, true));
        Checks.due("again", x.again(), 0);
        Checks.due("wipe", x.wipe(), 0);
        Checks.due("say", x.say(), 1);
        Checks.due("load", x.load(), 1);
    }

    // ---- promises 2 and 3

    private static void feedAndWipe() {
        House x = new House();
        for (int n : new int[] {0, 9, -1, Integer.MIN_VALUE, Integer.MAX_VALUE}) {
            Checks.dueThrows("feed " + n, IllegalArgumentException.class, () -> x.feed(n, 1));
        }
        Checks.due("feed", x.feed(3, 0x11636261L), 3);
        Checks.due("feed", x.feed(8, -1L), 11);
        Checks.due("tape", x.look(7), 11);
        Checks.due("wipe", x.wipe(), 11);
        Checks.due("wipe", x.wipe(), 0);
        for (int i = 1; i <= 400; i++) {
            Checks.due("feed", x.feed(8, i), 8 * i);
        }
        Checks.due("wipe", x.wipe(), 3200);
        House y = Rows.tapeOf(8189);
        Checks.due("feed", y.feed(2, 0), 8191);
        Checks.dueThrows("feed", IllegalStateException.class, () -> y.feed(2, 0));
        Checks.due("tape", y.look(7), 8191);
        Checks.due("feed", y.feed(1, 0), 8192);
        Checks.dueThrows("feed", IllegalStateException.class, () -> y.feed(1, 0));
        Checks.dueThrows("feed", IllegalArgumentException.class, () -> y.feed(0, 0));
        Checks.due("wipe", y.wipe(), 8192);
        x.feed(1, 0x120);
        Checks.due("lowest byte alone", x.load(), 0);
        x.feed(2, 0x1c00);
        Checks.due("lowest first", x.load(), 3);
        x.feed(1, 0x1c);
        Checks.due("iden", x.load(), 0);
    }

    // ---- promise 4

    private static void loadNaturals() {
        dueLoad("", 1);
        dueLoad("11111111", 1);
        dueLoad("1".repeat(8 * 480), 1);
        dueLoad("1".repeat(8000) + "0".repeat(64), 4);
        dueLoad("1111" + "0" + "0" + "00" + "0000", 4);
        dueLoad("1111" + "0" + "0" + "00", 1);
        dueLoad("111" + "0" + "1" + "111" + "1".repeat(15), 4);
        dueLoad("111" + "0" + "1" + "111" + "1".repeat(8), 1);
        dueLoad(Oracle.naturalBits(401), 4);
        dueLoad(Oracle.naturalBits(400) + "0".repeat(8), 3);
        dueLoad(Oracle.naturalBits(400), 1);
    }

    private static void loadReading() {
        dueLoad(Oracle.naturalBits(2) + number(8, 5), 1);
        dueLoad(Oracle.naturalBits(2) + number(8, 5) + number(14, 5), 2);
        dueLoad("0" + number(13, 5), 2);
        dueLoad("0" + number(31, 5), 2);
        dueLoad("0" + number(12, 5) + number(168, 8), 2);
        dueLoad("0" + number(12, 5) + number(255, 8), 2);
        dueLoad("0" + number(12, 5) + "10", 1);
        dueLoad("0" + number(11, 5) + "1".repeat(250), 1);
        dueLoad("0" + number(3, 5) + "0", 3);
        dueLoad("0" + number(0, 5) + "0" + "1".repeat(9), 3);
        dueLoad(Oracle.naturalBits(2) + number(8, 5) + number(0, 5) + "0" + "100" + "0".repeat(40), 3);
        dueLoad(Oracle.naturalBits(2) + number(8, 5) + number(0, 5) + "0" + "11110000000000000000", 4);
        dueLoad(nodes("8") + "0", 0);
        dueLoad(nodes("12 167") + "0", 0);
    }

    private static void loadJudging() {
        dueLoad(nodes("8", "7", "0 1 2") + "0", 5);
        dueLoad(nodes("7", "8", "0 2 1") + "0", 0);
        dueLoad(nodes("7", "8") + "0", 5);
        dueLoad(nodes("8", "3 1", "8", "3 2") + "0", 5);
        dueLoad(nodes("11") + "0", 7);
        dueLoad(nodes("11", "5 1") + "0", 7);
        dueLoad(nodes("8", "11", "2 2 1") + "0", 7);
        dueLoad(nodes("11", "8", "0 2 1") + "0", 7);
        dueLoad(nodes("11", "11 1", "1 2 1") + "0", 7);
        dueLoad(nodes("11", "1 1 1") + "0", 7);
        dueLoad(nodes("8", "11", "1 2 1") + "0", 0);
        dueLoad(nodes("11", "8", "1 2 1") + "0", 0);
        dueLoad(nodes("8", "7", "11", "1 1 2") + "0", 5);
        dueLoad(nodes("8", "12 0", "0 2 1") + "0", 8);
        dueLoad(nodes("7", "2 1 1", "0 1 1") + "0", 8);
        dueLoad(nodes("8", "3 1", "12 76", "0 2 1") + "0", 8);
        String[] wide = {"12 123", "2 1 1", "2 1 1", "2 1 1", "2 1 1", "2 1 1"};
        dueLoad(nodes(wide) + "0", 0);
        dueLoad(nodes("12 123", "2 1 1", "2 1 1", "2 1 1", "2 1 1", "2 1 1", "3 1") + "0", 9);
        dueLoad(nodes("12 123", "2 1 1", "2 1 1", "2 1 1", "2 1 1", "2 1 1", "2 1 1") + "0", 9);
        dueLoad(nodes("8", "8", "2 2 1") + "0", 6);
        dueLoad(nodes("7", "8", "2 2 1", "8", "2 2 1") + "0", 6);
        dueLoad(nodes("8", "3 1", "8", "0 2 1") + "0", 0);
        dueLoad(nodes("10", "10", "2 2 1") + "0", 0);
        dueLoad(nodes("8", "11", "1 2 1", "11", "1 4 1", "2 3 1") + "0", 6);
        dueLoad(nodes("8", "11", "1 2 1", "11 1", "1 4 1", "2 3 1") + "0", 0);
        dueLoad(nodes("12 123", "12 123", "2 2 1", "2 1 1", "2 1 1", "2 1 1", "2 1 1", "2 1 1", "2 1 1") + "0", 9);
    }

    private static void loadWitness() {
        dueLoad(nodes("8") + "1".repeat(1), 1);
        String w = nodes("10", "12 92", "0 2 1");
        dueLoad(w + Oracle.naturalBits(9) + "00000000", 0);
        byte[] cut = Checks.bits(w + Oracle.naturalBits(9) + "00000000");
        Checks.due("the witness ends", Checks.load(new House(), java.util.Arrays.copyOf(cut, cut.length - 1)), 1);
        dueLoad(w + Oracle.naturalBits(8) + "0000000", 10);
        dueLoad(w + Oracle.naturalBits(10) + "000000000", 10);
        dueLoad(w + "0", 10);
        dueLoad(w + "1111" + "0" + "0" + "00" + "0000", 4);
        dueLoad(w + Oracle.naturalBits(65535), 1);
        dueLoad(w + Oracle.naturalBits(9) + "00000000" + "1", 12);
        dueLoad(w + Oracle.naturalBits(9) + "00000000" + "0".repeat(16), 12);
        // a witness of ONE + WORD 8: 0, then eight 0s, or 1 and any eight
        String fit = nodes("10", "7", "8", "2 2 1", "8", "5 1", "12 92", "8", "0 2 1", "5 1", "1 5 1", "0 8 1", "0 12 1");
        dueLoad(fit + Oracle.naturalBits(10) + "111111111", 0);
        dueLoad(fit + Oracle.naturalBits(10) + "000000000", 0);
        dueLoad(fit + Oracle.naturalBits(10) + "000000001", 11);
        dueLoad(fit + Oracle.naturalBits(10) + "010000000" + "1", 11);
        dueLoad(fit + Oracle.naturalBits(11) + "0100000000" + "1", 10);
        House x = new House();
        Checks.due("load", load(x, nodes("7") + "0"), 0);
        Checks.due("load", load(x, ""), 1);
        Checks.due("the program stays", x.node(0, 0), 7);
        Checks.due("its error", x.look(9), 1);
        Checks.due("load", load(x, nodes("8") + "0"), 0);
        Checks.due("the new one", x.node(0, 0), 8);
        Checks.due("no error", x.look(9), 0);
    }

    // ---- promise 5

    private static void run() {
        House x = built("a = jet 0");
        Checks.feed(x, Checks.bits("00000001" + "11111111"));
        Checks.due("run", x.run(26, 25, false), 2);
        Checks.due("OUT", Checks.out(x), Checks.bits("1" + "00000000"));
        Checks.due("cells", x.look(11), 25);
        Checks.due("frames", x.look(12), 2);
        Checks.due("steps", x.look(13), 26);
        Checks.due("runs", x.look(10), 1);
        Checks.feed(x, Checks.bits("00000001" + "11111111"));
        Checks.due("too few steps", x.run(25, 25, false), -2);
        Checks.due("the tape is used up", x.look(7), 0);
        Checks.due("OUT stays", x.look(8), 2);
        Checks.feed(x, Checks.bits("00000001" + "11111111"));
        Checks.due("too few cells", x.run(26, 24, true), -2);
        Checks.feed(x, Checks.bits("00000001"));
        Checks.due("no value, ahead of too few", x.run(1, 1, false), -4);
        Checks.feed(x, Checks.bits("0".repeat(24)));
        Checks.due("bytes behind it", x.run(100, 100, false), -4);
        Checks.due("an empty tape", x.run(100, 100, false), -4);
        x.feed(2, 0);
        Checks.dueThrows("run", IllegalArgumentException.class, () -> x.run(0, 100, false));
        Checks.dueThrows("run", IllegalArgumentException.class, () -> x.run(100, -1, false));
        Checks.due("the tape stays", x.look(7), 2);
        Checks.due("run", x.run(26, 25, true), 2);
        Checks.due("runs", x.look(10), 2);
        Checks.due("steps of the one that was not defined", x.look(13), 26);

        House sum = built("a = comp (pair iden unit) case (take left unit) (take right jet 92)");
        Checks.due("source", sum.look(1), 9);
        Checks.due("left", run(sum, "000000000", false), 2);
        Checks.due("OUT", Checks.out(sum), Checks.bits("000000000"));
        Checks.due("right", run(sum, "100001111", false), 2);
        Checks.due("OUT", Checks.out(sum), Checks.bits("111110000"));
        Checks.due("0s are wanted", run(sum, "000000001", false), -4);
        Checks.due("0s are wanted behind", run(sum, "0000000001", false), -4);

        String hidden = "hidden " + "0".repeat(64);
        House half = built("a = comp (pair iden unit) case (take unit) " + hidden);
        Checks.due("the child that is there", run(half, "0", false), 0);
        Checks.due("cells", half.look(11), half.look(3));
        Checks.due("the hidden one", run(half, "1", false), -1);
        Checks.due("the hidden one, defined", run(half, "1", true), -1);
        House fails = built("a = comp fail unit");
        Checks.due("fails", run(fails, "", false), -1);
        Checks.due("no value came", fails.look(10), 0);
        House pair = built("a = pair witness - fail");
        Checks.due("fails", run(pair, "", false), -1);
        House nothing = built("a = unit");
        nothing.feed(1, 0);
        Checks.due("a byte behind no bits", nothing.run(9, 9, false), -4);
        Checks.due("no bits", run(nothing, "", false), 0);
        Checks.due("OUT is empty", nothing.look(8), 0);
    }

    /** By PAIR of the same and TAKE, so that all are 0 bits wide, and steps are as wanted. */
    private static String steps(int wanted) {
        if (wanted == 1) {
            return "x1 = unit\n";
        }
        if (wanted % 2 == 0) {
            return steps(wanted - 1) + "x" + wanted + " = take x" + (wanted - 1) + "\n";
        }
        int half = (wanted - 1) / 2;
        return steps(half) + "x" + wanted + " = pair x" + half + " x" + half + "\n";
    }

    private static void runLimits() {
        House x = built(steps(1000000));
        Checks.due("steps", x.look(5), 1000000);
        Checks.due("run", x.run(1000000, 1, false), 0);
        Checks.due("steps", x.look(13), 1000000);
        Checks.due("run", x.run(999999, 1, false), -2);
        House y = built(steps(1000001));
        Checks.due("steps", y.look(5), 1000001);
        Checks.due("run", y.run(Integer.MAX_VALUE, Integer.MAX_VALUE, false), -2);
        Checks.due("no run", y.look(10), 0);
    }

    private static void runDeep() {
        StringBuilder s = new StringBuilder("w0=jet 127 ");
        for (int i = 1; i <= 5; i++) {
            s.append("w").append(i).append("=pair w").append(i - 1).append(" w").append(i - 1).append(" ");
        }
        String words = s.toString();
        s.append("f=iden c0=w5 ");
        for (int i = 1; i <= 393; i++) {
            s.append("c").append(i).append("=comp c").append(i - 1).append(" f ");
        }
        House x = built(s.toString());
        Checks.due("nodes", x.look(0), 400);
        Checks.due("cells", x.look(3), 393 * 2048 + 2048);
        Checks.due("frames", x.look(4), 395);
        Checks.due("run", x.run(1000000, 1000000, false), 256);
        Checks.due("used cells", x.look(11), x.look(3));
        Checks.due("used frames", x.look(12), 395);
        Checks.due("used steps", x.look(13), x.look(5));
        byte[] ones = new byte[256];
        java.util.Arrays.fill(ones, (byte) 255);
        Checks.due("OUT", Checks.out(x), ones);
        House y = built(words + "f=iden c0=comp w5 f " + chainBehind(390) + "z=comp c0 c390");
        Checks.due("run", y.run(1000000, 1000000, true), 256);
        Checks.due("OUT", Checks.out(y), ones);
        House many = built("a=jet 39 b=pair take a drop a c=pair take b drop b");
        String four = "01".repeat(64) + "0".repeat(64) + "1".repeat(64) + "1".repeat(65) + "0".repeat(127) + "10011".repeat(12)
                + "1111";
        Checks.due("many times", run(many, four, false), 32);
        byte[] want = Checks.out(many);
        Checks.due("defined many times", run(many, four, true), 32);
        Checks.due("OUT", Checks.out(many), want);
    }

    private static String chainBehind(int n) {
        StringBuilder s = new StringBuilder("c1=comp f f ");
        for (int i = 2; i <= n; i++) {
            s.append("c").append(i).append("=comp f c").append(i - 1).append(" ");
        }
        return s.toString();
    }

    // ---- promise 6

    private static void node() {
        House x = new House();
        Checks.due("load", load(x, nodes("8", "11 1", "1 2 1", "12 92", "5 1", "2 3 1") + "0"), 8);
        Checks.due("load", load(x, nodes("8", "11 1", "1 2 1") + "0"), 0);
        int[][] want = {{8, -1, -1, 0, 0, 0, 0, 1}, {11, -1, -1, -1, -1, 0, 0, 0}, {1, 0, 1, 1, 0, 0, 0, 2}};
        for (int i = 0; i < 3; i++) {
            for (int k = 0; k < 8; k++) {
                Checks.due("node " + i + ", " + k, x.node(i, k), want[i][k]);
            }
        }
        for (int i : new int[] {-1, 3, Integer.MAX_VALUE, Integer.MIN_VALUE}) {
            Checks.dueThrows("node " + i, NoSuchElementException.class, () -> x.node(i, 0));
            Checks.dueThrows("what " + i, NoSuchElementException.class, () -> x.node(0, i == 3 ? 8 : i));
        }
        Checks.due("say of words of two sizes", Checks.say(x, "a = comp (pair jet 95 jet 92) unit"), 8);
        House y = built("a = comp jet 0 drop jet 92");
        Checks.due("number", y.node(0, 1), 0);
        Checks.due("number", y.node(1, 1), 92);
        Checks.due("steps of a jet", y.node(0, 7), 1 + 16 + 9);
        Checks.due("steps of comp", y.node(3, 7), 26 + 18 + 1);
        Checks.due("cells of comp", y.node(3, 5), 9);
        Checks.due("frames of comp", y.node(3, 6), 1);
        Checks.due("source of drop", y.node(2, 3), 9);
        Checks.due("target of drop", y.node(2, 4), 8);
        House z = built("a = iden b = pair a jet 92");
        Checks.due("steps of iden", z.node(0, 7), 9);
    }

    // ---- promises 7 and 8

    private static void roots() {
        House x = new House();
        Checks.due("load", load(x, nodes("8", "11 1", "1 2 1") + "0"), 0);
        int[] leaf = Oracle.leaf(8);
        int[] ones = {-1, -1, -1, -1, -1, -1, -1, -1};
        int[] both = Oracle.compress(Oracle.leaf(1), Oracle.both(leaf, ones));
        int[] one = Oracle.leaf(208);
        int[] sum = Oracle.compress(Oracle.leaf(209), Oracle.both(one, one));
        int[] product = Oracle.compress(Oracle.leaf(210), Oracle.both(sum, one));
        for (int k = 0; k < 8; k++) {
            Checks.due("root of unit", x.root(0, k), leaf[k] & 0xffffffffL);
            Checks.due("root of hidden", x.root(1, k), 0xffffffffL);
            Checks.due("root of case", x.root(2, k), both[k] & 0xffffffffL);
            Checks.due("type's root", x.typeRoot(2, false, k), product[k] & 0xffffffffL);
            Checks.due("ONE's root", x.typeRoot(2, true, k), one[k] & 0xffffffffL);
            Checks.due("hidden has none", x.typeRoot(1, k % 2 == 0, k), 0);
        }
        for (int k : new int[] {-1, 8, Integer.MAX_VALUE, Integer.MIN_VALUE}) {
            Checks.dueThrows("root", NoSuchElementException.class, () -> x.root(0, k));
            Checks.dueThrows("root", NoSuchElementException.class, () -> x.root(k == 8 ? 3 : k, 0));
            Checks.dueThrows("typeRoot", NoSuchElementException.class, () -> x.typeRoot(1, true, k));
            Checks.dueThrows("typeRoot", NoSuchElementException.class, () -> x.typeRoot(k == 8 ? 3 : k, true, 0));
        }
        House y = built("a = comp take jet 5 unit");
        int[] jet = Oracle.leaf(37);
        int[] take = Oracle.compress(Oracle.leaf(5), Oracle.both(new int[8], jet));
        Checks.due("root of jet", y.root(0, 7), jet[7] & 0xffffffffL);
        Checks.due("root of take", y.root(1, 3), take[3] & 0xffffffffL);
        Checks.due("another program's root", Checks.build(y, "a = fail"), 0);
        Checks.due("root of fail", y.root(0, 0), Oracle.leaf(9)[0] & 0xffffffffL);
        Checks.due("and its type's", y.typeRoot(0, true, 0), one[0] & 0xffffffffL);
    }

    /** A CASE for each, nearly as many as 512 calls can feed. */
    private static void manyHidden() {
        StringBuilder s = new StringBuilder(Oracle.naturalBits(201) + number(8, 5));
        java.util.Random random = new java.util.Random(5);
        for (int i = 0; i < 100; i++) {
            s.append(number(11, 5));
            for (int k = 0; k < 256; k++) {
                s.append(random.nextInt(2));
            }
            s.append(number(1, 5)).append(Oracle.naturalBits(2)).append(Oracle.naturalBits(1));
        }
        s.append("0");
        House x = new House();
        Checks.due("load", load(x, s.toString()), 0);
        Oracle.Prog p = new Oracle().load(Checks.bits(s.toString()));
        for (int i : new int[] {1, 2, 3, 100, 199, 200}) {
            int[] want = Oracle.root(p.nodes.get(i));
            for (int k = 0; k < 8; k++) {
                Checks.due("root of " + i, x.root(i, k), want[k] & 0xffffffffL);
            }
        }
        Checks.due("width", x.look(1), 100);
        Checks.due("left all the way", run(x, "0".repeat(100), false), 0);
        Checks.due("steps", x.look(13), 101);
        Checks.due("right at last", run(x, "0".repeat(99) + "1", false), -1);
    }

    // ---- promise 9

    private static void type() {
        House x = new House();
        Checks.due("load", load(x, nodes("8", "11 1", "1 2 1") + "0"), 0);
        Checks.due("type", x.type(2, false), 9);
        Checks.due("text", Checks.out(x), Checks.bytes("((1+1)*1)"));
        Checks.due("hidden", x.type(1, true), -2);
        Checks.due("OUT stays", Checks.out(x), Checks.bytes("((1+1)*1)"));
        Checks.due("type", x.type(2, true), 1);
        Checks.due("text", Checks.out(x), Checks.bytes("1"));
        Checks.dueThrows("type", NoSuchElementException.class, () -> x.type(3, true));
        Checks.dueThrows("type", NoSuchElementException.class, () -> x.type(-1, true));
        // texts of 1, 5, 9 .. bytes: 297 has room, 301 has not
        StringBuilder s = new StringBuilder("x0 = unit ");
        for (int i = 1; i <= 75; i++) {
            s.append("x").append(i).append(" = left x").append(i - 1).append(" ");
        }
        House y = built(s.toString());
        Checks.due("type", y.type(74, true), 297);
        Checks.due("type", y.type(75, true), -1);
        Checks.due("OUT stays", y.look(8), 297);
        Checks.due("type", y.type(74, false), 1);
        House z = built("a = iden b = pair a pair a pair a pair a a c = comp b unit d = pair left c right c");
        Checks.due("type", z.type(z.look(0) - 1, true), 13);
        Checks.due("text", Checks.out(z), Checks.bytes("((1+1)*(1+1))"));
    }

    // ---- promise 10

    private static void sayForm() {
        dueSay("", 1, 0);
        dueSay(" \n ", 1, 3);
        dueSay("a", 1, 1);
        dueSay("a ", 1, 2);
        dueSay("a =", 1, 3);
        dueSay("a = iden", 0, 0);
        dueSay("a=iden", 0, 0);
        dueSay("\n a\n=\n(iden)\n", 0, 0);
        dueSay("a = (iden", 1, 9);
        dueSay("a = (iden unit", 1, 10);
        dueSay("a = iden)", 1, 8);
        dueSay("a = )", 1, 4);
        dueSay("a = = iden", 1, 4);
        dueSay("a ( iden", 1, 2);
        dueSay("a b = iden", 1, 2);
        dueSay("= iden", 1, 0);
        dueSay("(a = iden)", 1, 0);
        dueSay("a = pair iden", 1, 13);
        dueSay("a = take", 1, 8);
        dueSay("a = iden\t", 1, 8);
        dueSay("a = iden\tb = fail", 1, 8);
        dueSay("a\u0000= iden", 1, 1);
        dueSay("a = ide\u007f", 2, 4);
        dueSay("a = iden\u00e9", 1, 8);
        dueSay("a = 7", 1, 4);
        dueSay("a = Iden", 1, 4);
        dueSay("a = id_en", 1, 4);
        dueSay("a = jet", 1, 7);
        dueSay("a = jet x", 1, 8);
        dueSay("a = jet 168", 1, 8);
        dueSay("a = jet 1000", 1, 8);
        dueSay("a = jet 0007", 1, 8);
        dueSay("a = jet 007", 0, 0);
        dueSay("a = jet 167", 0, 0);
        dueSay("a = jet (7)", 1, 8);
        dueSay("a = jet -", 1, 8);
        dueSay("a = witness", 1, 11);
        dueSay("a = witness 012", 1, 12);
        dueSay("a = witness --", 1, 12);
        dueSay("a = witness (", 1, 12);
        dueSay("a = witness -", 0, 0);
        dueSay("a = hidden " + "0".repeat(63), 1, 11);
        dueSay("a = hidden " + "0".repeat(65), 1, 11);
        dueSay("a = hidden " + "0".repeat(63) + "g", 1, 11);
        dueSay("a = hidden " + "0".repeat(63) + "F", 1, 11);
        dueSay("a = hidden " + "0".repeat(64), 7, 0);
        dueSay("a = new", 1, 7);
        dueSay("a = new iden", 1, 8);
        dueSay("a = new (b)", 1, 8);
        dueSay("a = new b", 2, 8);
        dueSay("a = new a", 2, 8);
    }

    private static void sayNames() {
        dueSay("abcdefgh = iden", 0, 0);
        dueSay("abcdefghi = iden", 1, 0);
        dueSay("a1b2c3d4 = iden", 0, 0);
        dueSay("1a = iden", 1, 0);
        dueSay("aB = iden", 1, 0);
        for (String word : Oracle.WORDS) {
            dueSay(word + " = iden", 1, 0);
            dueSay(word + "1 = iden", word.length() < 8 ? 0 : 1, 0);
        }
        dueSay("new = iden", 1, 0);
        dueSay("a = a", 2, 4);
        dueSay("a = abcdefghi", 1, 4);
        dueSay("a = b b = iden", 2, 4);
        dueSay("a = iden a = iden", 2, 9);
        dueSay("a = iden b = a c = b d = new c", 0, 0);
        dueSay("a = iden b = take b", 2, 18);
        House x = new House();
        Checks.due("say", Checks.say(x, "a = iden b = pair a a"), 0);
        byte[] two = Checks.out(x);
        Checks.due("say", Checks.say(x, "z = fail a = iden b = pair a new a"), 0);
        Checks.due("the same become one, others are left out", Checks.out(x), two);
        Checks.due("say", Checks.say(x, "a = iden b = pair (iden) iden"), 0);
        Checks.due("from the children on", Checks.out(x), two);
        House y = built("a = unit b = left a c = pair a a d = pair b (pair c (new b))");
        Checks.due("nodes", y.look(0), 5);
        House w = built("a = witness - b = pair a new a");
        Checks.due("witnesses stay", w.look(0), 3);
        // a shared witness stays shared in what new makes
        House v = built("a = witness - b = pair a a c = pair b new b");
        Checks.due("nodes", v.look(0), 5);
        // shared nodes have one type, copies have their own
        dueSay("a = iden b = pair a a c = comp b b", 8, 0);
        dueSay("a = iden b = pair a a c = comp b new b", 0, 0);
    }

    /** So many nodes: a, which has a hundred, copies of it, and what is left. */
    private static String made(int nodes) {
        StringBuilder s = new StringBuilder("a = " + "take ".repeat(99) + "unit ");
        for (int i = 100; i + 100 <= nodes; i += 100) {
            s.append("b").append(i).append(" = new a ");
        }
        int rest = nodes % 100;
        return rest == 0 ? s.toString() : s + "r = " + "take ".repeat(rest - 1) + "unit ";
    }

    private static void sayMany() {
        dueSay("a = " + "(".repeat(1900) + "unit" + ")".repeat(1900), 0, 0);
        dueSay("a = " + "(".repeat(1900) + "unit" + ")".repeat(1899), 1, 3807);
        dueSay("z = fail " + made(1996) + "d = fail e = iden f = z", 0, 0);
        String made = made(2000) + "c = ";
        dueSay(made + "pair witness 1 a", 3, made.length());
        dueSay(made + "a", 0, 0);
        dueSay(made + "jet 999", 3, made.length());
        dueSay(made + "(new a)", 3, made.length() + 1);
        dueSay(made + "new q", 2, made.length() + 4);
        dueSay(made + "new", 1, made.length() + 3);
        dueSay(made + "hidden", 3, made.length());
        String less = "z = unit " + made(1998) + "y = ";
        dueSay(less + "new z", 0, 0);
        dueSay(less + "pair new z z", 3, less.length() + 5);
        dueSay(less + "new a", 3, less.length());
        dueSay("a = " + "take ".repeat(399) + "unit", 0, 0);
        dueSay("a = " + "take ".repeat(400) + "unit", 4, 0);
        dueSay("a = " + "take ".repeat(398) + "unit b = pair a new a", 0, 0);
        dueSay("a = " + "take ".repeat(398) + "witness - b = pair a new a", 4, 0);
    }

    private static void sayJudging() {
        String h = "hidden " + "0".repeat(64);
        String g = "hidden " + "f".repeat(64);
        dueSay("a = take " + h, 7, 0);
        dueSay("a = case " + h + " " + g, 7, 0);
        dueSay("a = case unit " + h, 0, 0);
        dueSay("a = pair (case unit " + h + ") case unit " + h, 0, 0);
        House x = built("a = pair (case unit " + h + ") case unit " + h);
        Checks.due("hidden ones become one", x.look(0), 4);
        dueSay("b = take " + h + " a = unit", 0, 0);
        dueSay("a = pair (comp unit jet 0) " + h, 7, 0);
        dueSay("a = comp unit jet 0", 8, 0);
        dueSay("a = case take unit drop left unit", 8, 0);
        String wide = "a = jet 123 b = pair a a c = pair b b d = pair c c e = pair d d f = pair e e ";
        dueSay(wide, 0, 0);
        dueSay(wide + "g = left f", 9, 0);
        dueSay(wide + "g = comp (left f) unit", 9, 0);
        dueSay(wide + "g = comp f unit", 0, 0);
        dueSay(wide + "g = pair witness 1 left f", 9, 0);
        dueSay("a = witness 1", 10, 0);
        dueSay("a = comp witness 0000000 jet 92", 10, 0);
        dueSay("a = comp witness 00000000 jet 92", 0, 0);
        String force = "f = comp (pair iden unit) case (take comp unit jet 120) (take comp (comp jet 92 unit) jet 120) ";
        dueSay(force + "a = comp witness 000000000 f", 0, 0);
        dueSay(force + "a = comp witness 100000001 f", 0, 0);
        dueSay(force + "a = comp witness 000000001 f", 11, 0);
        dueSay(force + "a = pair (comp witness 000000001 f) witness 1", 10, 0);
        dueSay(force + "a = pair witness - (comp witness 000000001 f)", 11, 0);
        dueSay("a = " + "take ".repeat(400) + "witness 1", 4, 0);
    }

    private static String wideWitnesses(int count, String last) {
        StringBuilder s = new StringBuilder("f0=jet 95 ");
        for (int i = 1; i <= 5; i++) {
            s.append("f").append(i).append("=pair take f").append(i - 1).append(" drop f").append(i - 1).append(" ");
        }
        s.append("w=comp (comp witness ").append("10".repeat(1024)).append(" f5) unit x0=unit ");
        for (int i = 1; i <= count; i++) {
            s.append("x").append(i).append("=pair x").append(i - 1).append(" new w ");
        }
        return s + last;
    }

    private static void sayLong() {
        dueSay(wideWitnesses(31, ""), 0, 0);
        dueSay(wideWitnesses(32, ""), 4, 0);
        dueSay(wideWitnesses(32, "y=pair x32 witness 1"), 10, 0);
        int most = 0;
        int longest = 0;
        House x = null;
        for (int n = 0; n < 64; n++) {
            StringBuilder more = new StringBuilder("v=comp (comp witness ").append("1".repeat(8)).append(" jet 92) unit ");
            more.append("y0=x31 ");
            for (int i = 1; i <= n; i++) {
                more.append("y").append(i).append("=pair y").append(i - 1).append(" new v ");
            }
            String speech = wideWitnesses(31, more.toString());
            byte[] want = new byte[0];
            int error = 0;
            try {
                want = new Oracle().say(Checks.bytes(speech));
            } catch (Oracle.Refused e) {
                error = e.error;
            }
            House y = new House();
            Checks.due("say with " + n, Checks.say(y, speech), error);
            if (error == 0) {
                Checks.due("OUT with " + n, y.look(8), want.length);
                Checks.due("OUT's end with " + n, y.out(want.length - 1), want[want.length - 1] & 255);
                longest = want.length;
                most = n;
                x = y;
            }
        }
        Checks.due("some were too long", most < 63);
        Checks.due("the longest is nearly as long as may be", longest > 8180 && longest <= 8192);
        x.again();
        Checks.due("load", x.load(), 0);
        Checks.due("witness", x.look(6), 31 * 2048 + 8 * most);
        int out = x.look(8);
        Checks.due("speak", x.speak(), -1);
        Checks.due("OUT stays", x.look(8), out);
        Checks.due("write", x.write(), longest);
        Checks.due("run", x.run(1000000, 1000000, false), 0);
    }

    // ---- promise 11

    private static void speak() {
        String h = "hidden 00ff" + "0123456789abcdef".repeat(3) + "0".repeat(12);
        House x = built("a = case (take comp witness 10100000 jet 92) (" + h + ") b = pair (left right a) drop unit");
        String want = "n0 = witness 10100000\nn1 = jet 92\nn2 = comp n0 n1\nn3 = take n2\nn4 = " + h
                + "\nn5 = case n3 n4\nn6 = right n5\nn7 = left n6\nn8 = unit\nn9 = drop n8\nn10 = pair n7 n9\n";
        Checks.due("speak", x.speak(), want.length());
        Checks.due("text", Checks.out(x), Checks.bytes(want));
        x.again();
        Checks.due("say", x.say(), 0);
        byte[] bytes = Checks.out(x);
        x.write();
        Checks.due("the same bytes", Checks.out(x), bytes);
        House y = built("a = pair witness - pair iden fail");
        y.speak();
        Checks.due("text", Checks.out(y),
                Checks.bytes("n0 = witness -\nn1 = iden\nn2 = fail\nn3 = pair n1 n2\nn4 = pair n0 n3\n"));
    }

    // ---- promise 12

    private static void again() {
        House x = new House();
        x.feed(4, 1);
        Checks.due("again", x.again(), 0);
        Checks.due("tape", x.look(7), 0);
        Checks.due("say", Checks.say(x, "a = unit"), 0);
        x.feed(8, 77);
        Checks.due("again", x.again(), 1);
        Checks.due("again", x.again(), 1);
        Checks.due("tape", x.look(7), 1);
        Checks.due("OUT stays", x.look(8), 1);
        Checks.due("load", x.load(), 0);
        Checks.due("unit", x.node(0, 0), 8);
    }

    // ---- promises 13 and 14

    private static void dueValue(House x, int i, String bits, String text) {
        Checks.feed(x, Checks.bits(bits));
        Checks.due("value " + bits, x.value(i, true), text.length());
        Checks.due("text of " + bits, Checks.out(x), Checks.bytes(text));
        Checks.due("tape is used up", x.look(7), 0);
        Checks.feed(x, Checks.bytes(text));
        Checks.due("worth " + text, x.worth(i, true), (bits.length() + 7) / 8);
        Checks.due("bytes of " + text, Checks.out(x), Checks.bits(bits));
        Checks.due("tape is used up", x.look(7), 0);
    }

    private static void value() {
        House x = built("b = left unit t = pair b b f = pair t t s = right left jet 120 "
                + "a = pair t (pair f (pair s (pair b pair unit jet 124)))");
        int last = x.look(0) - 1;
        Checks.due("target", x.look(2), 2 + 4 + 10 + 1 + 8);
        dueValue(x, last, "01" + "1010" + "1000000000" + "1" + "11000101", "((0,1),(#a,(RL#00,(1,(U,#c5)))))");
        dueValue(x, last, "10" + "0000" + "0000000000" + "0" + "00000000", "((1,0),(#0,(LU,(0,(U,#00)))))");
        dueValue(x, last, "11" + "0001" + "1100000000" + "0" + "00000000", "((1,1),(#1,(RRU,(0,(U,#00)))))");
        Checks.feed(x, Checks.bits("11" + "0001" + "1100000001" + "0" + "00000000"));
        Checks.due("no value", x.value(last, true), -4);
        Checks.feed(x, Checks.bits("11" + "0001" + "1100000000" + "0" + "00000000" + "1"));
        Checks.due("no 0s behind", x.value(last, true), -4);
        Checks.feed(x, Checks.bits("0".repeat(40)));
        Checks.due("a byte behind", x.value(last, true), -4);
        Checks.due("no bits", x.value(last, true), -4);
        Checks.due("OUT stays", x.look(8), 4);
        Checks.due("of ONE", x.value(last, false), 1);
        Checks.due("text", Checks.out(x), Checks.bytes("U"));
        House h = built("a = case unit hidden " + "0".repeat(64));
        h.feed(1, 0);
        Checks.due("hidden", h.value(1, true), -2);
        Checks.due("tape is used up", h.look(7), 0);
        h.feed(1, 0);
        Checks.dueThrows("value", NoSuchElementException.class, () -> h.value(3, true));
        Checks.dueThrows("value", NoSuchElementException.class, () -> h.value(-1, true));
        Checks.dueThrows("worth", NoSuchElementException.class, () -> h.worth(3, true));
        Checks.dueThrows("worth", NoSuchElementException.class, () -> h.worth(-1, true));
        Checks.due("tape stays", h.look(7), 1);
        Checks.due("hidden", h.worth(1, true), -2);
        // the text of pairs of U has 1, 5, 13, .. 8189, 16381 bytes
        StringBuilder s = new StringBuilder("x0 = unit ");
        for (int i = 1; i <= 60; i++) {
            s.append("x").append(i).append(" = pair x").append(i - 1).append(" x").append(i - 1).append(" ");
        }
        House y = built(s.toString());
        Checks.due("value", y.value(11, true), 8189);
        y.again();
        Checks.due("worth", y.worth(11, true), 0);
        Checks.due("value", y.value(11, true), 8189);
        y.again();
        Checks.due("worth", y.worth(12, true), -4);
        Checks.due("value", y.value(12, true), -1);
        Checks.due("OUT stays", y.look(8), 8189);
        Checks.due("value", y.value(60, true), -1);
        y.feed(1, 0);
        Checks.due("no value, ahead of too long", y.value(60, true), -4);
        Checks.due("steps, none above", y.look(5), Integer.MAX_VALUE);
        Checks.due("node's steps", y.node(40, 7), Integer.MAX_VALUE);
        Checks.due("node's steps", y.node(29, 7), (1 << 30) - 1);
        Checks.due("node's steps", y.node(30, 7), Integer.MAX_VALUE);
        Checks.due("run", y.run(Integer.MAX_VALUE, Integer.MAX_VALUE, false), -2);
        Checks.due("type", y.type(60, true), -1);
    }

    private static void worth() {
        House x = built("b = left unit t = pair b b a = pair t (pair jet 120 (right left unit))");
        int last = x.look(0) - 1;
        dueValue(x, last, "01" + "00001111" + "10", "((0,1),(#0f,RLU))".replace("RLU", "R0"));
        byte[] before = Checks.out(x);
        String[] bad = {"", "(", "((0,1),(#0f,R0)", "((0,1),(#0f,R0)))", "((0,1),(#0F,R0))", "((0,1),(#f,R0))",
            "((0,1),(#00f,R0))", "((0,1),(0f,R0))", "(#1,(#0f,R0))", "((0,2),(#0f,R0))", "((0,1),(#0f,RLU))",
            "((0,1),(#0f,L))", "((0,1),(#0f,L0))", "((0,1) (#0f,R0))", " ((0,1),(#0f,R0))", "((0,1),(#0f,R0))\n",
            "((0,1),(#0g,R0))", "((0,1),(#0f,X0))", "((U,1),(#0f,R0))"};
        for (String text : bad) {
            Checks.feed(x, Checks.bytes(text));
            Checks.due("worth " + text, x.worth(last, true), -4);
            Checks.due("OUT stays", Checks.out(x), before);
            Checks.due("tape is used up", x.look(7), 0);
        }
        dueValue(x, last, "00" + "00000000" + "00", "((0,0),(#00,LU))");
        House wide = built("a = jet 127 b = pair a a c = pair b b d = pair c c e = pair d d f = pair e e");
        dueValue(wide, 5, "1".repeat(2048), "#" + "f".repeat(512));
    }

    // ---- promises 15 and 16

    private static void writeAndOut() {
        House x = new House();
        String program = nodes("10", "12 92", "0 2 1") + Oracle.naturalBits(9) + "10000001";
        byte[] bytes = Checks.bits(program);
        Checks.due("load", Checks.load(x, bytes), 0);
        Checks.due("write", x.write(), bytes.length);
        Checks.due("OUT", Checks.out(x), bytes);
        Checks.due("say", Checks.say(x, "a = unit"), 0);
        Checks.due("the loaded one", x.write(), bytes.length);
        Checks.due("OUT", Checks.out(x), bytes);
        Checks.due("load", load(x, "1"), 1);
        Checks.due("still the loaded one", x.write(), bytes.length);
        int size = bytes.length;
        Checks.due("last byte", x.out(size - 1), bytes[size - 1] & 255);
        for (int k : new int[] {-1, size, size + 8, Integer.MAX_VALUE, Integer.MIN_VALUE}) {
            Checks.dueThrows("out " + k, NoSuchElementException.class, () -> x.out(k));
        }
        long first = 0;
        for (int i = 7; i >= 0; i--) {
            first = first << 8 | (i < size ? bytes[i] & 255 : 0);
        }
        Checks.due("eight bytes", x.out(0), first);
        Checks.due("negative ones", Checks.build(x, "a = jet 31"), 0);
        Checks.feed(x, Checks.bits("1".repeat(128)));
        Checks.due("run", x.run(1000, 1000, false), 16);
        Checks.due("eight bytes", x.out(0), 0xfeffffffffffffffL);
        Checks.due("eight bytes", x.out(9), 0x01000000000000L);
        Checks.due("a shorter one", Checks.build(x, "a = jet 92"), 0);
        x.feed(1, 0);
        Checks.due("run", x.run(1000, 1000, false), 1);
        Checks.due("0 behind its end", x.out(0), 255);
    }

    // ---- promise 17

    private static void look() {
        House x = built("a = comp witness 00000011 jet 92");
        int[] want = {3, 0, 8, 8 + 8, 3, 9 + 17 + 1, 8, 0, x.look(8), 0, 0, 0, 0, 0, 0};
        for (int i = 0; i <= 14; i++) {
            Checks.due("look " + i, x.look(i), want[i]);
        }
        for (int i : new int[] {-1, 15, Integer.MAX_VALUE, Integer.MIN_VALUE}) {
            Checks.dueThrows("look " + i, IllegalArgumentException.class, () -> x.look(i));
        }
        Checks.due("run", x.run(100, 100, true), 1);
        Checks.due("runs", x.look(10), 1);
        Checks.due("none that was not defined", x.look(11) + x.look(12) + x.look(13), 0);
        Checks.due("run", x.run(100, 100, false), 1);
        Checks.due("cells", x.look(11), 16);
        Checks.due("frames", x.look(12), 3);
        Checks.due("steps", x.look(13), 27);
        Checks.due("say", Checks.say(x, "a = b"), 2);
        Checks.due("place", x.look(14), 4);
        Checks.due("say", Checks.say(x, "a = witness 0"), 10);
        Checks.due("no place", x.look(14), 0);
        Checks.due("say", Checks.say(x, "aa = b"), 2);
        Checks.due("place", x.look(14), 5);
        Checks.due("say", Checks.say(x, "a = unit"), 0);
        Checks.due("no place", x.look(14), 0);
        Checks.due("load", x.load(), 1);
        Checks.due("error", x.look(9), 1);
        Checks.due("used stays with another program", Checks.build(x, "a = iden"), 0);
        Checks.due("steps", x.look(13), 27);
        House c = built("a = comp (pair iden unit) case (take unit) (take comp jet 92 unit)");
        Checks.due("steps", c.look(5), c.node(c.look(0) - 1, 7));
        int bound = c.look(5);
        Checks.due("left", run(c, "000000000", false), 0);
        Checks.due("fewer steps", c.look(13), bound - 17 - 1 - 1 + 1);
        Checks.due("fewer cells", c.look(11), 9 + 9);
        Checks.due("fewer frames", c.look(12), 3);
        Checks.due("right", run(c, "100000000", false), 0);
        Checks.due("all steps", c.look(13), bound);
        Checks.due("all cells", c.look(11), c.look(3));
        Checks.due("all frames", c.look(12), 4);
    }
}

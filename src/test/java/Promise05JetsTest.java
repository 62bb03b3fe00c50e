import java.math.BigInteger;
import java.util.ArrayList;
import java.util.List;

/** Promise 5: each jet at the edges of its words, worked and defined: what the document tells of it. */
public final class Promise05JetsTest {
    private static final BigInteger ZERO = BigInteger.ZERO;
    private static final BigInteger ONE = BigInteger.ONE;

    private Promise05JetsTest() {
    }

    public static void main(String[] args) {
        Checks.test("promise 5: jets 0 to 6, what is carried or borrowed", Promise05JetsTest::carried);
        Checks.test("promise 5: jets 7 and 8, both halves of a product", Promise05JetsTest::products);
        Checks.test("promise 5: jets 9 to 11, by 0 and not", Promise05JetsTest::divided);
        Checks.test("promise 5: jets 12 to 18, order", Promise05JetsTest::compared);
        Checks.test("promise 5: jets 19 to 31, tests and bits", Promise05JetsTest::bitwise);
        Checks.test("promise 5: jets 32 to 35, moved by less than w, by w and by more", Promise05JetsTest::moved);
        Checks.test("promise 5: jets 36 to 41, counts and halves", Promise05JetsTest::counted);
        Checks.test("promise 5: every jet's source and target", Promise05JetsTest::widths);
        Checks.test("promise 5: every jet, all edges together", Promise05JetsTest::allEdges);
        Checks.end();
    }

    private static BigInteger full(int w) {
        return ONE.shiftLeft(w);
    }

    private static BigInteger most(int w) {
        return full(w).subtract(ONE);
    }

    private static BigInteger half(int w) {
        return ONE.shiftLeft(w - 1);
    }

    private static String word(BigInteger n, int w) {
        return Oracle.binary(n, w);
    }

    private static String word(long n, int w) {
        return Oracle.binary(BigInteger.valueOf(n), w);
    }

    /** Cases of one jet that wait to be worked, as many in one run as have room. */
    private static final List<String> IN = new ArrayList<>();
    private static final List<String> OUT = new ArrayList<>();

    private static void due(String in, String out) {
        IN.add(in);
        OUT.add(out);
    }

    private static void flush(int number) {
        if (IN.isEmpty()) {
            return;
        }
        int wide = Math.max(1, Math.max(IN.get(0).length(), OUT.get(0).length()));
        int times = 0;
        while (times < 8 && wide << times + 1 <= 2048 && 1 << times < IN.size()) {
            times++;
        }
        StringBuilder s = new StringBuilder("f0 = jet " + number + " ");
        for (int i = 1; i <= times; i++) {
            s.append("f").append(i).append(" = pair take f").append(i - 1).append(" drop f").append(i - 1).append(" ");
        }
        House x = null;
        for (int from = 0; from < IN.size(); from += 1 << times) {
            StringBuilder in = new StringBuilder();
            StringBuilder out = new StringBuilder();
            for (int i = 0; i < 1 << times; i++) {
                int k = Math.min(from + i, IN.size() - 1);
                in.append(IN.get(k));
                out.append(OUT.get(k));
            }
            if (x == null || x.left() < 150) {
                x = House.of(s.toString());
            }
            work(x, number, in.toString(), out.toString());
        }
        IN.clear();
        OUT.clear();
    }

    private static void work(House x, int number, String in, String out) {
        byte[] want = Checks.bits(out);
        for (boolean defined : new boolean[] {false, true}) {
            String what = "jet " + number + (defined ? " defined" : "") + " of " + in;
            Checks.due("run of " + what, x.run(in, defined), want.length);
            Checks.due(what, x.outBytes(), want);
        }
    }

    private static void carried() {
        for (int m = 0; m < 4; m++) {
            int w = 8 << m;
            String none = word(0, w);
            String one = word(1, w);
            String all = word(most(w), w);
            String less = word(most(w).subtract(ONE), w);
            String top = word(half(w), w);
            due(none + none, "0" + none);
            due(all + none, "0" + all);
            due(none + all, "0" + all);
            due(all + one, "1" + none);
            due(one + all, "1" + none);
            due(all + all, "1" + less);
            due(top + top, "1" + none);
            due(word(half(w).subtract(ONE), w) + one, "0" + top);
            flush(m);
            due("0" + all + none, "0" + all);
            due("1" + all + none, "1" + none);
            due("1" + none + all, "1" + none);
            due("1" + all + all, "1" + all);
            due("1" + none + none, "0" + one);
            due("1" + less + none, "0" + all);
            due("0" + top + top, "1" + none);
            flush(4 + m);
            due(none + none, "0" + none);
            due(none + one, "1" + all);
            due(one + none, "0" + one);
            due(one + one, "0" + none);
            due(none + all, "1" + one);
            due(all + all, "0" + none);
            due(all + none, "0" + all);
            due(top + one, "0" + word(half(w).subtract(ONE), w));
            due(none + top, "1" + top);
            flush(8 + m);
            due("0" + none + none, "0" + none);
            due("1" + none + none, "1" + all);
            due("1" + one + none, "0" + none);
            due("1" + one + one, "1" + all);
            due("1" + all + all, "1" + all);
            due("1" + none + all, "1" + none);
            due("1" + all + less, "0" + none);
            due("0" + none + one, "1" + all);
            flush(12 + m);
            due(none, "0" + one);
            due(less, "0" + all);
            due(all, "1" + none);
            due(word(half(w).subtract(ONE), w), "0" + top);
            flush(16 + m);
            due(none, "1" + all);
            due(one, "0" + none);
            due(all, "0" + less);
            due(top, "0" + word(half(w).subtract(ONE), w));
            flush(20 + m);
            due(none, "0" + none);
            due(one, "1" + all);
            due(all, "1" + one);
            due(top, "1" + top);
            flush(24 + m);
        }
    }

    private static void products() {
        for (int m = 0; m < 4; m++) {
            int w = 8 << m;
            String none = word(0, w);
            String one = word(1, w);
            String all = word(most(w), w);
            String top = word(half(w), w);
            String root = word(ONE.shiftLeft(w / 2), w);
            due(none + all, none + none);
            due(all + none, none + none);
            due(one + all, none + all);
            due(all + one, none + all);
            due(all + all, word(most(w).subtract(ONE), w) + one);
            due(top + word(2, w), one + none);
            due(root + root, one + none);
            due(word(ONE.shiftLeft(w / 2).subtract(ONE), w) + word(ONE.shiftLeft(w / 2).add(ONE), w), none + all);
            flush(28 + m);
            due(all + all + all + all, all + all);
            due(none + all + all + all, one + word(most(w).subtract(ONE), w));
            due(none + none + all + one, one + none);
            due(none + none + all + none, none + all);
            due(all + all + none + none, word(most(w).subtract(ONE), w) + one);
            due(all + all + all + none, all + none);
            due(one + one + none + none, none + one);
            due(none + none + none + none, none + none);
            flush(32 + m);
        }
    }

    private static void divided() {
        for (int m = 0; m < 4; m++) {
            int w = 8 << m;
            String none = word(0, w);
            String one = word(1, w);
            String two = word(2, w);
            String all = word(most(w), w);
            String less = word(most(w).subtract(ONE), w);
            String top = word(half(w), w);
            String[][] by = {{none, none, none, none}, {all, none, none, all}, {one, none, none, one},
                {top, none, none, top}, {none, one, none, none}, {none, all, none, none}, {one, one, one, none},
                {all, one, all, none}, {all, all, one, none}, {less, all, none, less}, {all, less, one, one},
                {all, two, word(half(w).subtract(ONE), w), one}, {top, two, word(half(w).shiftRight(1), w), none},
                {all, top, one, word(half(w).subtract(ONE), w)}, {top, top, one, none}, {one, two, none, one},
                {top, all, none, top}, {all, word(10, w), word(most(w).divide(BigInteger.TEN), w),
                    word(most(w).mod(BigInteger.TEN), w)}};
            for (String[] b : by) {
                due(b[0] + b[1], b[2]);
            }
            flush(36 + m);
            for (String[] b : by) {
                due(b[0] + b[1], b[3]);
            }
            flush(40 + m);
            // whether y is a multiple of x; of 0 is 0 alone
            due(none + none, "1");
            due(none + one, "0");
            due(none + all, "0");
            due(one + none, "1");
            due(all + none, "1");
            due(one + all, "1");
            due(two + all, "0");
            due(two + less, "1");
            due(all + all, "1");
            due(all + less, "0");
            due(less + all, "0");
            due(top + top, "1");
            due(word(3, w) + all, "1");
            due(word(4, w) + top, "1");
            due(top + one, "0");
            due(top + word(half(w).shiftRight(1), w), "0");
            flush(44 + m);
        }
    }

    private static void compared() {
        for (int m = 0; m < 4; m++) {
            int w = 8 << m;
            BigInteger[] in = {ZERO, ONE, half(w).subtract(ONE), half(w), half(w).add(ONE), most(w).subtract(ONE), most(w)};
            int[] signed = {0, 1, 2, -4, -3, -2, -1};
            for (int k = 12; k <= 17; k++) {
                for (int i = 0; i < in.length; i++) {
                    for (int j = 0; j < in.length; j++) {
                        boolean holds = k == 12 ? i == j : k == 13 ? i < j : k == 14 ? i <= j : signed[i] < signed[j];
                        int least = Math.min(i, j);
                        int greatest = Math.max(i, j);
                        String want = k < 16 ? Oracle.truth(holds) : word(in[k == 16 ? least : greatest], w);
                        due(word(in[i], w) + word(in[j], w), want);
                    }
                }
                flush(4 * k + m);
            }
            for (int i = 0; i < in.length; i++) {
                for (int j = 0; j < in.length; j++) {
                    for (int k = 0; k < in.length; k++) {
                        int[] three = {i, j, k};
                        java.util.Arrays.sort(three);
                        due(word(in[i], w) + word(in[j], w) + word(in[k], w), word(in[three[1]], w));
                    }
                }
            }
            flush(4 * 18 + m);
        }
    }

    private static void bitwise() {
        for (int m = 0; m < 4; m++) {
            int w = 8 << m;
            String none = word(0, w);
            String one = word(1, w);
            String all = word(most(w), w);
            String less = word(most(w).subtract(ONE), w);
            String top = word(half(w), w);
            String low = word(half(w).subtract(ONE), w);
            String[] in = {none, one, word(2, w), all, less, top, low, word(half(w).add(ONE), w)};
            for (String x : in) {
                due(x, Oracle.truth(x.equals(none)));
            }
            flush(76 + m);
            for (String x : in) {
                due(x, Oracle.truth(x.equals(one)));
            }
            flush(80 + m);
            for (String x : in) {
                due(x, Oracle.truth(x.equals(all)));
            }
            flush(84 + m);
            for (String x : in) {
                due(x, Oracle.truth(!x.equals(none)));
            }
            flush(88 + m);
            due(none, all);
            due(all, none);
            due(one, less);
            due(top, low);
            flush(92 + m);
            // by bits 0011 and 0101, and 0, 1 for the third
            String x = "0011".repeat(w / 4);
            String y = "0101".repeat(w / 4);
            due(x + y, "0001".repeat(w / 4));
            flush(96 + m);
            due(x + y, "0111".repeat(w / 4));
            flush(100 + m);
            due(x + y, "0110".repeat(w / 4));
            flush(104 + m);
            due(x + y + none, "0110".repeat(w / 4));
            due(x + y + all, "1001".repeat(w / 4));
            flush(108 + m);
            due(x + y + none, "0001".repeat(w / 4));
            due(x + y + all, "0111".repeat(w / 4));
            flush(112 + m);
            due(x + y + none, "0001".repeat(w / 4));
            due(x + y + all, "1101".repeat(w / 4));
            flush(116 + m);
            due("", none);
            flush(120 + m);
            due("", all);
            flush(124 + m);
        }
    }

    private static void moved() {
        for (int m = 0; m < 4; m++) {
            int w = 8 << m;
            String[] in = {"1".repeat(w), "1" + "0".repeat(w - 1), "0".repeat(w - 1) + "1", "1101" + "0".repeat(w - 8) + "0111",
                "0".repeat(w)};
            int[] by = {0, 1, 2, 3, w / 2 - 1, w / 2, w / 2 + 1, w - 2, w - 1, w, w + 1, 2 * w - 1, 2 * w, 2 * w + 1, 127, 128,
                129, 191, 192, 193, 254, 255};
            for (int k = 32; k <= 35; k++) {
                for (String x : in) {
                    for (int n : by) {
                        if (n < 256) {
                            due(word(n, 8) + x, turned(k, w, n, x));
                        }
                    }
                }
                flush(4 * k + m);
            }
        }
    }

    private static String turned(int k, int w, int n, String x) {
        int r = n % w;
        switch (k) {
            case 32:
                return n >= w ? "0".repeat(w) : x.substring(n) + "0".repeat(n);
            case 33:
                return n >= w ? "0".repeat(w) : "0".repeat(n) + x.substring(0, w - n);
            case 34:
                return x.substring(r) + x.substring(0, r);
            default:
                return x.substring(w - r) + x.substring(0, w - r);
        }
    }

    private static void counted() {
        for (int m = 0; m < 4; m++) {
            int w = 8 << m;
            for (int n = 0; n <= w; n++) {
                due("0".repeat(w - n) + "1".repeat(n), word(n, 8));
                due("1".repeat(n) + "0".repeat(w - n), word(n, 8));
            }
            flush(144 + m);
            for (int n = 0; n <= w; n++) {
                due("0".repeat(n) + "1".repeat(w - n), word(n, 8));
                if (n < w) {
                    due("0".repeat(n) + "1" + "0".repeat(w - n - 1), word(n, 8));
                }
            }
            flush(148 + m);
            int h = w / 2;
            String a = "1".repeat(h);
            String b = "0".repeat(h);
            String c = "1" + "0".repeat(h - 1);
            String d = "0".repeat(h - 1) + "1";
            String[][] halves = {{a, b}, {b, a}, {c, d}, {d, c}};
            for (String[] x : halves) {
                due(x[0] + x[1], x[0]);
            }
            flush(152 + m);
            for (String[] x : halves) {
                due(x[0] + x[1], x[1]);
            }
            flush(156 + m);
            for (String x : new String[] {a, b, c, d}) {
                due(x, b + x);
            }
            flush(160 + m);
            for (String x : new String[] {a, b, c, d}) {
                due(x, x + b);
            }
            flush(164 + m);
        }
    }

    /** By kind: how many words, and a BIT or a WORD 8 ahead. */
    private static void widths() {
        for (int number = 0; number < 168; number++) {
            House x = House.ofBits(Bits.program("12 " + number));
            int k = number / 4;
            int w = 8 << number % 4;
            int source = 2 * w;
            if (k == 1 || k == 3) {
                source = 1 + 2 * w;
            } else if (k >= 4 && k <= 6 || k >= 19 && k <= 23 || k >= 36 && k <= 39) {
                source = w;
            } else if (k == 8) {
                source = 4 * w;
            } else if (k == 18 || k >= 27 && k <= 29) {
                source = 3 * w;
            } else if (k == 30 || k == 31) {
                source = 0;
            } else if (k >= 32 && k <= 35) {
                source = 8 + w;
            } else if (k >= 40) {
                source = w / 2;
            }
            int target = w;
            if (k <= 6) {
                target = 1 + w;
            } else if (k <= 8) {
                target = 2 * w;
            } else if (k >= 11 && k <= 15 || k >= 19 && k <= 22) {
                target = 1;
            } else if (k == 36 || k == 37) {
                target = 8;
            } else if (k == 38 || k == 39) {
                target = w / 2;
            }
            Checks.due("source of " + number, x.look(1), source);
            Checks.due("target of " + number, x.look(2), target);
            Checks.due("steps of " + number, x.look(5), 1 + source + target);
            Checks.due("cells of " + number, x.look(3), source + target);
            Checks.due("frames of " + number, x.look(4), 2);
            Node n = Node.of(number);
            Checks.due("source's root of " + number, x.typeRoot(0, false, 0), n.source);
            Checks.due("target's root of " + number, x.typeRoot(0, true, 0), n.target);
        }
    }

    private static final class Node {
        final long source;
        final long target;

        Node(long source, long target) {
            this.source = source;
            this.target = target;
        }

        static Node of(int number) {
            Oracle.Node n = new Oracle.Node();
            n.code = 12;
            n.number = number;
            Oracle.findType(n);
            Oracle oracle = new Oracle();
            return new Node(oracle.typeRoot(n.s)[0] & 0xffffffffL, oracle.typeRoot(n.t)[0] & 0xffffffffL);
        }
    }

    private static void allEdges() {
        for (int number = 0; number < 168; number++) {
            int w = 8 << number % 4;
            String shape = Oracle.jetSource(number / 4);
            BigInteger[] many = {ZERO, ONE, BigInteger.TWO, half(w).subtract(ONE), half(w), half(w).add(ONE),
                most(w).subtract(ONE), most(w)};
            BigInteger[] few = {ZERO, ONE, half(w), most(w)};
            List<String> inputs = new ArrayList<>();
            inputs.add("");
            String rest = shape;
            if (shape.startsWith("B")) {
                inputs = times(inputs, new String[] {"0", "1"});
                rest = shape.substring(1);
            }
            if (shape.startsWith("8")) {
                inputs = times(inputs, new String[] {word(0, 8), word(1, 8), word(w - 1, 8), word(w, 8), word(255, 8)});
                rest = shape.substring(1);
            }
            for (int i = 0; i < rest.length() && !rest.equals("1"); i++) {
                BigInteger[] from = rest.length() > 2 ? few : many;
                String[] words = new String[from.length];
                for (int j = 0; j < from.length; j++) {
                    words[j] = word(from[j], rest.equals("H") ? w / 2 : w);
                }
                inputs = times(inputs, words);
            }
            for (String in : inputs) {
                due(in, Oracle.jet(number, in));
            }
            flush(number);
        }
    }

    private static List<String> times(List<String> heads, String[] tails) {
        List<String> all = new ArrayList<>();
        for (String head : heads) {
            for (String tail : tails) {
                all.add(head + tail);
            }
        }
        return all;
    }
}

import java.math.BigInteger;
import java.util.ArrayList;
import java.util.Arrays;
import java.util.HashMap;
import java.util.IdentityHashMap;
import java.util.List;
import java.util.Map;
import java.util.Random;

/** Programs and speeches at random, good and spoilt, each answer against the Oracle's. */
public final class OracleTest {
    private static Random random;
    private static Oracle oracle;
    private static List<Oracle.Node> made;
    private static House house;
    private static int runs;
    private static int place;
    /** What OUT is to be, and the program that is loaded. */
    private static byte[] out;
    private static byte[] loaded;
    /** Rows and texts that are longer take too many of an object's calls. */
    private static final int LONG = 1400;

    private OracleTest() {
    }

    public static void main(String[] args) {
        int cases = args.length > 0 ? Integer.parseInt(args[0]) : 800;
        int seed = args.length > 1 ? Integer.parseInt(args[1]) : 1;
        for (int i = 0; i < cases; i++) {
            random = new Random(new Random(seed * 1000003L + i).nextLong());
            oracle = new Oracle();
            if (i % 10 == 0) {
                house = null;
                loaded = null;
            }
            String speech = randomSpeech();
            checkSpeech(speech);
            for (int k = 0; k < 6; k++) {
                oracle = new Oracle();
                checkSpeech(spoilt(speech));
            }
            checkBytes();
        }
        Checks.end();
    }

    private static int any(int n) {
        return random.nextInt(n);
    }

    /** So many calls can be made: else of a new object, to which the same program is loaded. */
    private static void ready(int calls) {
        if (house == null || house.left() < calls) {
            house = new House();
            runs = 0;
            out = new byte[0];
            if (loaded != null) {
                Checks.due("load once more", Checks.load(house, loaded), 0);
            }
        }
    }

    /** OUT is as due: all of it, or, when it is long, here and there. */
    private static void sameOut(String what) {
        Checks.due("size of " + what, house.look(8), out.length);
        if (house.look(8) != out.length) {
            return;
        }
        for (int k = 0; k < out.length; k += out.length > 600 ? 8 + any(out.length / 20) : 8) {
            long eight = 0;
            for (int i = 7; i >= 0; i--) {
                eight = eight << 8 | (k + i < out.length ? out[k + i] & 255 : 0);
            }
            Checks.due(what + " from " + k, house.out(k), eight);
        }
    }

    // ---- programs of nodes

    private static Oracle.Type randomType(int depth) {
        int k = depth <= 0 ? any(2) : any(7);
        switch (k) {
            case 0:
                return Oracle.ONE;
            case 1:
                return Oracle.word(1 << any(depth > 1 ? 6 : 3));
            case 2:
                return Oracle.word(1);
            case 3:
            case 4:
                return Oracle.sum(randomType(depth - 1), randomType(depth - 1));
            default:
                return Oracle.product(randomType(depth - 1), randomType(depth - 1));
        }
    }

    /** Rows that go over the ends of the words that a machine may keep them in. */
    private static Oracle.Type manyWords(int depth) {
        if (depth > 0 && any(8) > 0) {
            return Oracle.product(manyWords(depth - 1), manyWords(depth - 1));
        }
        return any(6) == 0 ? Oracle.sum(Oracle.ONE, Oracle.word(1 << any(7))) : Oracle.word(1 << any(7));
    }

    private static Oracle.Node add(int code, Oracle.Node a, Oracle.Node b) {
        Oracle.Node n = new Oracle.Node();
        n.code = code;
        n.a = a;
        n.b = b;
        made.add(n);
        return n;
    }

    private static Oracle.Node hidden() {
        Oracle.Node n = add(11, null, null);
        Random few = new Random(any(4));
        StringBuilder s = new StringBuilder();
        while (s.length() < 256) {
            s.append(few.nextInt(2));
        }
        n.bits = any(5) == 0 ? spoiltBits(s.toString()).substring(0, 256) : s.toString();
        return n;
    }

    private static Oracle.Node jetFor(int s, int t) {
        int from = any(168);
        for (int i = 0; i < 168; i++) {
            Oracle.Node n = new Oracle.Node();
            n.code = 12;
            n.number = (from + i) % 168;
            Oracle.findType(n);
            if (oracle.id(n.s) == s && oracle.id(n.t) == t) {
                made.add(n);
                return n;
            }
        }
        return null;
    }

    private static final List<Oracle.Node> KEPT = new ArrayList<>();
    private static final List<int[]> KEPT_TYPES = new ArrayList<>();
    private static final Map<Integer, Oracle.Node> FORCED = new HashMap<>();

    /** A node that can have these types (it may be found to have more general ones). */
    private static Oracle.Node typed(Oracle.Type source, Oracle.Type target, int depth) {
        Oracle.Type s = Oracle.real(source);
        Oracle.Type t = Oracle.real(target);
        for (int i = 0; i < KEPT.size() && any(3) == 0; i++) {
            int k = any(KEPT.size());
            if (KEPT_TYPES.get(k)[0] == oracle.id(s) && KEPT_TYPES.get(k)[1] == oracle.id(t)) {
                return KEPT.get(k);
            }
        }
        Oracle.Node n = made.size() > 120 ? small(s, t) : typedNew(s, t, depth);
        KEPT.add(n);
        KEPT_TYPES.add(new int[] {oracle.id(s), oracle.id(t)});
        return n;
    }

    private static Oracle.Node small(Oracle.Type s, Oracle.Type t) {
        if (oracle.id(s) == oracle.id(t)) {
            return add(7, null, null);
        }
        if (t.a == null) {
            return add(8, null, null);
        }
        if (any(60) == 0) {
            return add(9, null, null);
        }
        return any(4) == 0 ? add(10, null, null) : add(0, add(10, null, null), pin(t));
    }

    /** A node from the type to ONE that has no more general source. */
    private static Oracle.Node force(Oracle.Type type) {
        Oracle.Type t = Oracle.real(type);
        Oracle.Node known = FORCED.get(oracle.id(t));
        if (known != null) {
            return known;
        }
        Oracle.Node n;
        if (t.a == null) {
            Oracle.Node jet = add(12, null, null);
            jet.number = 120;
            n = add(0, jet, add(8, null, null));
        } else if (t.kind == '+') {
            Oracle.Node both = add(1, add(5, force(t.a), null), add(5, force(t.b), null));
            n = add(0, add(2, add(7, null, null), add(8, null, null)), both);
        } else {
            n = add(0, add(2, add(5, force(t.a), null), add(6, force(t.b), null)), add(8, null, null));
        }
        FORCED.put(oracle.id(t), n);
        return n;
    }

    /** From the type to itself, and from no more general one. */
    private static Oracle.Node pin(Oracle.Type t) {
        return add(0, add(2, add(7, null, null), force(t)), add(5, add(7, null, null), null));
    }

    private static Oracle.Node typedNew(Oracle.Type s, Oracle.Type t, int depth) {
        if (depth <= 0) {
            return small(s, t);
        }
        switch (any(10)) {
            case 0:
                Oracle.Type mid = randomType(2);
                return add(0, typed(s, mid, depth - 1), typed(mid, t, depth - 1));
            case 1:
            case 2:
                Oracle.Node jet = jetFor(oracle.id(s), oracle.id(t));
                if (jet != null) {
                    return jet;
                }
                break;
            case 3:
            case 4:
                if (s.kind == '*') {
                    return any(2) == 0 ? add(5, typed(s.a, t, depth - 1), null) : add(6, typed(s.b, t, depth - 1), null);
                }
                break;
            case 5:
                return small(s, t);
            default:
                break;
        }
        if (s.kind == '*' && Oracle.real(s.a).kind == '+' && any(2) == 0) {
            Oracle.Type sum = Oracle.real(s.a);
            Oracle.Node a = typed(Oracle.product(sum.a, s.b), t, depth - 1);
            Oracle.Node b = typed(Oracle.product(sum.b, s.b), t, depth - 1);
            int which = any(12);
            return add(1, which == 0 ? hidden() : a, which == 1 ? hidden() : b);
        }
        if (t.kind == '*') {
            return add(2, typed(s, t.a, depth - 1), typed(s, t.b, depth - 1));
        }
        if (t.kind == '+') {
            return any(2) == 0 ? add(3, typed(s, t.a, depth - 1), null) : add(4, typed(s, t.b, depth - 1), null);
        }
        return small(s, t);
    }

    private static Oracle.Node untyped(int depth) {
        if (!made.isEmpty() && any(4) == 0) {
            return made.get(any(made.size()));
        }
        int code = depth <= 0 ? 7 + any(4) : any(13);
        if (code == 11) {
            return hidden();
        }
        Oracle.Node a = code <= 6 ? untyped(depth - 1) : null;
        Oracle.Node b = code <= 2 ? untyped(depth - 1) : null;
        Oracle.Node n = add(code, a, b);
        if (code == 12) {
            n.number = any(168);
        }
        return n;
    }

    private static String randomValue(Oracle.Type type) {
        Oracle.Type t = Oracle.real(type);
        if (t.a == null) {
            return "";
        }
        if (t.kind == '*') {
            return randomValue(t.a) + randomValue(t.b);
        }
        Oracle.Type part = any(2) == 0 ? t.a : t.b;
        return (part == t.a ? "0" : "1") + "0".repeat(oracle.width(t) - 1 - oracle.width(part)) + randomValue(part);
    }

    /** Rows that fit the types which are found, but for a few. */
    private static void fillRows(Oracle.Node last) {
        List<Oracle.Node> nodes = Oracle.ordered(last);
        try {
            oracle.judge(nodes);
        } catch (Oracle.Refused e) {
            return;
        }
        boolean spoil = any(12) == 0;
        for (Oracle.Node n : nodes) {
            if (n.code == 10) {
                n.bits = randomValue(n.t);
                if (spoil && any(3) == 0) {
                    n.bits = spoiltBits(n.bits);
                }
            }
        }
    }

    private static String spoiltBits(String bits) {
        if (bits.isEmpty() || any(4) == 0) {
            return bits + "1";
        }
        int at = any(bits.length());
        return bits.substring(0, at) + (char) (bits.charAt(at) ^ 1) + bits.substring(at + 1);
    }

    // ---- speeches

    private static String randomSpeech() {
        made = new ArrayList<>();
        KEPT.clear();
        KEPT_TYPES.clear();
        FORCED.clear();
        Oracle.Node last;
        if (any(4) == 0) {
            last = untyped(1 + any(6));
        } else {
            boolean wide = any(4) == 0;
            Oracle.Type source = wide ? manyWords(3) : randomType(3);
            last = typed(source, wide ? manyWords(3) : randomType(3), 1 + any(wide ? 12 : 7));
            last = any(3) == 0 ? last : add(0, pin(source), last);
        }
        fillRows(last);
        return speechOf(last);
    }

    private static Map<Oracle.Node, String> names;
    private static StringBuilder text;

    private static String speechOf(Oracle.Node last) {
        List<Oracle.Node> nodes = Oracle.ordered(last);
        Map<Oracle.Node, Integer> uses = new IdentityHashMap<>();
        for (Oracle.Node n : nodes) {
            if (n.a != null) {
                uses.merge(n.a, 1, Integer::sum);
            }
            if (n.b != null) {
                uses.merge(n.b, 1, Integer::sum);
            }
        }
        names = new IdentityHashMap<>();
        text = new StringBuilder();
        int count = 0;
        for (Oracle.Node n : nodes) {
            if (n == last || uses.get(n) > 1 || any(5) == 0) {
                blank();
                String name = (any(2) == 0 ? "x" : "main") + count++;
                text.append(name);
                blank();
                text.append("=");
                blank();
                tell(n);
                names.put(n, name);
                text.append(any(2) == 0 ? "\n" : " ");
            }
        }
        return text.toString();
    }

    private static void blank() {
        int n = any(4);
        text.append(n == 0 ? "" : n == 1 ? " " : n == 2 ? "  " : "\n ");
    }

    private static void tell(Oracle.Node n) {
        if (any(6) == 0) {
            text.append("(");
            blank();
            tellPlain(n);
            blank();
            text.append(")");
        } else {
            tellPlain(n);
        }
    }

    private static void tellPlain(Oracle.Node n) {
        String name = names.get(n);
        if (name != null) {
            text.append(any(6) == 0 ? "new " + name : name);
            return;
        }
        text.append(Oracle.WORDS[n.code]);
        if (n.a != null) {
            text.append(" ");
            tell(n.a);
        }
        if (n.b != null) {
            text.append(" ");
            tell(n.b);
        }
        if (n.code == 10) {
            text.append(" ").append(n.bits.isEmpty() ? "-" : n.bits);
        }
        if (n.code == 11) {
            String hex = new BigInteger(n.bits, 2).toString(16);
            text.append(" ").append("0".repeat(64 - hex.length())).append(hex);
        }
        if (n.code == 12) {
            text.append(" ").append(any(5) == 0 ? String.format("%03d", n.number) : "" + n.number);
        }
    }

    private static final String[] BITS_OF_SPEECH = {"=", "(", ")", "iden", "unit", "fail", "take", "drop", "left",
        "right", "comp", "pair", "case", "jet", "witness", "hidden", "new", "x0", "main0", "x1", "0", "1", "-", "168",
        "167", "007", "0167", "a", "abcdefgh", "abcdefghi", "9a", "A", "\u0001", "\u007f", "\u00ff", "\n", " ", "~",
        "iden unit", "q = iden"};

    private static String spoilt(String s) {
        int from = any(s.length() + 1);
        int to = Math.min(s.length(), from + any(8));
        String put = BITS_OF_SPEECH[any(BITS_OF_SPEECH.length)];
        switch (any(5)) {
            case 0:
                return s.substring(0, from) + put + s.substring(from);
            case 1:
                return s.substring(0, from) + " " + put + " " + s.substring(from);
            case 2:
                return s.substring(0, from) + s.substring(to);
            case 3:
                return s.substring(0, from);
            default:
                return s.substring(0, from) + " " + put + " " + s.substring(to);
        }
    }

    private static void checkSpeech(String speech) {
        byte[] bytes = Checks.bytes(speech);
        if (bytes.length > LONG) {
            return;
        }
        ready(300);
        int error = 0;
        place = 0;
        try {
            out = oracle.say(bytes);
        } catch (Oracle.Refused e) {
            error = e.error;
            place = e.place;
        }
        Checks.due("say " + speech, Checks.say(house, speech), error);
        Checks.due("place of " + speech, house.look(14), place);
        Checks.due("tape after say", house.look(7), 0);
        sameOut("out of " + speech);
    }

    // ---- programs of bytes

    private static void checkBytes() {
        byte[] good = out;
        checkLoad(good);
        for (int k = 0; k < 10; k++) {
            byte[] bad = good.clone();
            for (int i = any(3); i >= 0 && bad.length > 0; i--) {
                bad[any(bad.length)] ^= (byte) (1 << any(8));
            }
            checkLoad(bad);
        }
        checkLoad(Arrays.copyOf(good, any(good.length + 1)));
        checkLoad(Arrays.copyOf(good, good.length + 1));
        byte[] noise = new byte[any(40)];
        random.nextBytes(noise);
        checkLoad(noise);
    }

    private static void checkLoad(byte[] bytes) {
        if (bytes.length > LONG) {
            return;
        }
        ready(220);
        oracle = new Oracle();
        Oracle.Prog p = null;
        int error = 0;
        try {
            p = oracle.load(bytes);
        } catch (Oracle.Refused e) {
            error = e.error;
        }
        int before = house.look(0);
        Checks.due("load", Checks.load(house, bytes), error);
        Checks.due("look 9", house.look(9), error);
        Checks.due("tape after load", house.look(7), 0);
        if (p == null) {
            Checks.due("program stays", house.look(0), before);
        } else {
            loaded = bytes;
            checkProgram(p, bytes);
        }
    }

    private static void checkProgram(Oracle.Prog p, byte[] bytes) {
        ready(100);
        Oracle.Node last = p.last();
        Checks.due("look 0", house.look(0), p.nodes.size());
        Checks.due("look 1", house.look(1), oracle.width(last.s));
        Checks.due("look 2", house.look(2), oracle.width(last.t));
        Checks.due("look 3", house.look(3), last.cells + oracle.width(last.s) + oracle.width(last.t));
        Checks.due("look 4", house.look(4), last.frames + 2);
        Checks.due("look 5", house.look(5), last.steps);
        Checks.due("look 6", house.look(6), p.witness.length());
        Checks.due("write", house.write(), bytes.length);
        out = bytes;
        sameOut("written");
        ready(200);
        String speech = Oracle.speech(p);
        Checks.due("speak", house.speak(), speech.length() > 8192 ? -1 : speech.length());
        if (speech.length() <= 8192) {
            out = Checks.bytes(speech);
            sameOut("spoken");
            house.again();
            Checks.due("said again", house.say(), 0);
            out = bytes;
            sameOut("as it was");
        }
        for (Oracle.Node n : p.nodes) {
            checkNode(n);
        }
        for (int i = 0; i < 4; i++) {
            checkRun(p);
        }
    }

    private static void checkNode(Oracle.Node n) {
        ready(100);
        int i = n.index;
        Checks.due("code", house.node(i, 0), n.code);
        Checks.due("first", house.node(i, 1), n.code == 12 ? n.number : n.a == null ? -1 : n.a.index);
        Checks.due("second", house.node(i, 2), n.b == null ? -1 : n.b.index);
        Checks.due("source", house.node(i, 3), n.code == 11 ? -1 : oracle.width(n.s));
        Checks.due("target", house.node(i, 4), n.code == 11 ? -1 : oracle.width(n.t));
        Checks.due("cells", house.node(i, 5), n.cells);
        Checks.due("frames", house.node(i, 6), n.frames);
        Checks.due("steps", house.node(i, 7), n.steps);
        int k = any(8);
        if (any(4) == 0) {
            Checks.due("root", house.root(i, k), Oracle.root(n)[k] & 0xffffffffL);
        }
        for (int side = 0; side < 2; side++) {
            Oracle.Type t = side == 0 ? n.s : n.t;
            Checks.due("typeRoot", house.typeRoot(i, side == 1, k),
                    n.code == 11 ? 0 : oracle.typeRoot(t)[k] & 0xffffffffL);
            String told = n.code == 11 ? null : oracle.typeText(t);
            int length = n.code == 11 ? -2 : told == null ? -1 : told.length();
            Checks.due("type", house.type(i, side == 1), length);
            if (told != null) {
                out = Checks.bytes(told);
            }
            sameOut("type's text");
            if (any(4) == 0) {
                checkValue(n, t, side == 1);
            }
        }
    }

    private static void checkValue(Oracle.Node n, Oracle.Type t, boolean target) {
        ready(350);
        if (n.code == 11) {
            Checks.feed(house, new byte[any(3)]);
            Checks.due("value of hidden", house.value(n.index, target), -2);
            Checks.due("worth of hidden", house.worth(n.index, target), -2);
            return;
        }
        byte[] bytes = Checks.bits(any(3) == 0 ? spoiltBits(randomValue(t)) : randomValue(t));
        Oracle.Value v = oracle.whole(bytes, t);
        Checks.feed(house, bytes);
        if (v == null) {
            Checks.due("no value", house.value(n.index, target), -4);
            sameOut("out stays");
            return;
        }
        String told = oracle.text(v, t);
        boolean fits = told.length() <= 8192;
        Checks.due("value", house.value(n.index, target), fits ? told.length() : -1);
        out = fits ? Checks.bytes(told) : out;
        sameOut("value's text");
        if (fits) {
            house.again();
            Checks.due("worth", house.worth(n.index, target), bytes.length);
            out = bytes;
            sameOut("worth's bytes");
        }
        if (told.length() <= 600) {
            String bad = spoiltText(told);
            Checks.feed(house, Checks.bytes(bad));
            int answer = house.worth(n.index, target);
            if (answer != -4) {
                out = Checks.out(house);
                Oracle.Value other = oracle.whole(out, t);
                Checks.due("worth of " + bad, other != null && oracle.text(other, t).equals(bad));
            }
        }
    }

    private static String spoiltText(String s) {
        int at = any(s.length() + 1);
        String put = "" + "U01#(),LRaf9gF ".charAt(any(15));
        return s.substring(0, at) + (any(3) == 0 ? "" : put)
                + s.substring(Math.min(s.length(), at + any(2)));
    }

    private static void checkRun(Oracle.Prog p) {
        ready(100);
        Oracle.Node last = p.last();
        byte[] bytes = Checks.bits(any(6) == 0 ? spoiltBits(randomValue(last.s)) : randomValue(last.s));
        Oracle.Value v = oracle.whole(bytes, last.s);
        int steps = any(6) == 0 ? Math.max(1, house.look(5) - any(2)) : 1000000;
        int cells = any(6) == 0 ? Math.max(1, house.look(3) - any(2)) : 1000000;
        boolean defined = any(2) == 0;
        int want = -4;
        byte[] given = out;
        if (v != null) {
            want = -1;
            if (last.steps > steps || house.look(3) > cells || last.steps > 1000000) {
                want = -2;
            } else {
                try {
                    given = Checks.bits(oracle.encode(oracle.work(p, v), last.t));
                    want = given.length;
                } catch (Oracle.Failed e) {
                    want = -1;
                }
            }
        }
        int[] used = {house.look(11), house.look(12), house.look(13)};
        Checks.feed(house, bytes);
        Checks.due("run", house.run(steps, cells, defined), want);
        out = given;
        sameOut("run's value");
        Checks.due("tape after run", house.look(7), 0);
        runs += want >= 0 ? 1 : 0;
        Checks.due("runs", house.look(10), runs);
        boolean counts = want >= 0 && !defined;
        Checks.due("used cells", house.look(11), counts ? oracle.usedCells : used[0]);
        Checks.due("used frames", house.look(12), counts ? oracle.usedFrames : used[1]);
        Checks.due("used steps", house.look(13), counts ? oracle.usedSteps : used[2]);
    }
}

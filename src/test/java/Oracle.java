import java.math.BigInteger;
import java.util.ArrayList;
import java.util.Arrays;
import java.util.HashMap;
import java.util.HashSet;
import java.util.IdentityHashMap;
import java.util.LinkedHashMap;
import java.util.List;
import java.util.Map;
import java.util.Set;

/**
 * The document once more, written apart from the class and as naively as it can be: bits are texts,
 * types and values are trees, everything recurs. Fit for small programs alone.
 */
final class Oracle {
    static final class Refused extends RuntimeException {
        private static final long serialVersionUID = 1L;
        final int error;
        final int place;

        Refused(int error, int place) {
            super("error " + error + " at " + place, null, false, false);
            this.error = error;
            this.place = place;
        }
    }

    static final class Failed extends RuntimeException {
        private static final long serialVersionUID = 1L;

        Failed() {
            super("fails", null, false, false);
        }
    }

    static final class Type {
        char kind;
        Type a;
        Type b;
        Type bound;

        Type(char kind, Type a, Type b) {
            this.kind = kind;
            this.a = a;
            this.b = b;
        }
    }

    static final class Node {
        int code;
        Node a;
        Node b;
        int number;
        String bits = "";
        Type s;
        Type t;
        int index = -1;
        long cells;
        long frames;
        long steps;
    }

    static final class Prog {
        List<Node> nodes = new ArrayList<>();
        String witness = "";

        Node last() {
            return nodes.get(nodes.size() - 1);
        }
    }

    static final class Value {
        final char kind;
        final Value a;
        final Value b;

        Value(char kind, Value a, Value b) {
            this.kind = kind;
            this.a = a;
            this.b = b;
        }
    }

    static final String[] WORDS = {"comp", "case", "pair", "left", "right", "take", "drop", "iden", "unit", "fail",
        "witness", "hidden", "jet"};
    static final Type ONE = new Type('1', null, null);

    // ---- types

    static Type open() {
        return new Type('?', null, null);
    }

    static Type sum(Type a, Type b) {
        return new Type('+', a, b);
    }

    static Type product(Type a, Type b) {
        return new Type('*', a, b);
    }

    static Type word(int n) {
        return n == 1 ? sum(ONE, ONE) : product(word(n / 2), word(n / 2));
    }

    static Type real(Type t) {
        Type r = t;
        while (r.bound != null) {
            r = r.bound;
        }
        return r;
    }

    static boolean occurs(Type open, Type t, Set<Type> seen) {
        Type r = real(t);
        if (r == open) {
            return true;
        }
        if (r.a == null || !seen.add(r)) {
            return false;
        }
        return occurs(open, r.a, seen) || occurs(open, r.b, seen);
    }

    static Set<Type> identitySet() {
        return java.util.Collections.newSetFromMap(new IdentityHashMap<>());
    }

    static void unify(Type x, Type y, Map<Type, Set<Type>> done) {
        Type a = real(x);
        Type b = real(y);
        if (a == b || !done.computeIfAbsent(a, k -> identitySet()).add(b)) {
            return;
        }
        if (a.kind == '?') {
            if (occurs(a, b, identitySet())) {
                throw new Refused(8, 0);
            }
            a.bound = b;
        } else if (b.kind == '?') {
            unify(b, a, done);
        } else if (a.kind != b.kind) {
            throw new Refused(8, 0);
        } else if (a.kind != '1') {
            unify(a.a, b.a, done);
            unify(a.b, b.b, done);
        }
    }

    static void unify(Type x, Type y) {
        unify(x, y, new IdentityHashMap<>());
    }

    /** Ground types get numbers, the same one for the same type. */
    private final Map<String, Integer> ids = new HashMap<>();
    private final Map<Type, Integer> idOf = new IdentityHashMap<>();
    private final Map<Integer, BigInteger> widths = new HashMap<>();
    private final Map<Integer, int[]> typeRoots = new HashMap<>();
    private final Map<Integer, String> texts = new HashMap<>();

    int id(Type type) {
        Type t = real(type);
        Integer known = idOf.get(t);
        if (known != null) {
            return known;
        }
        String key = t.a == null ? "1" : "" + t.kind + id(t.a) + "," + id(t.b);
        Integer id = ids.get(key);
        if (id == null) {
            id = ids.size();
            ids.put(key, id);
            BigInteger w = BigInteger.ZERO;
            if (t.a != null) {
                BigInteger p = widths.get(id(t.a));
                BigInteger q = widths.get(id(t.b));
                w = t.kind == '+' ? BigInteger.ONE.add(p.max(q)) : p.add(q);
            }
            widths.put(id, w);
            typeRoots.put(id, t.a == null ? leaf(208)
                    : compress(leaf(t.kind == '+' ? 209 : 210), both(typeRoots.get(id(t.a)), typeRoots.get(id(t.b)))));
            String text = t.a == null ? "1" : null;
            if (t.a != null && texts.get(id(t.a)) != null && texts.get(id(t.b)) != null) {
                text = "(" + texts.get(id(t.a)) + t.kind + texts.get(id(t.b)) + ")";
            }
            texts.put(id, text == null || text.length() > 300 ? null : text);
        }
        idOf.put(t, id);
        return id;
    }

    int width(Type t) {
        return widths.get(id(t)).min(BigInteger.valueOf(100000)).intValue();
    }

    int[] typeRoot(Type t) {
        return typeRoots.get(id(t));
    }

    /** Null when it has more than 300 bytes. */
    String typeText(Type t) {
        return texts.get(id(t));
    }

    private static Type shape(String shape, int w) {
        switch (shape) {
            case "1":
                return ONE;
            case "B":
                return word(1);
            case "W":
                return word(w);
            case "H":
                return word(w / 2);
            case "8":
                return word(8);
            case "WW":
                return product(word(w), word(w));
            case "BW":
                return product(word(1), word(w));
            case "BWW":
                return product(word(1), product(word(w), word(w)));
            case "WWW":
                return product(word(w), product(word(w), word(w)));
            case "8W":
                return product(word(8), word(w));
            default:
                return product(product(word(w), word(w)), product(word(w), word(w)));
        }
    }

    static String jetSource(int k) {
        if (k == 1 || k == 3) {
            return "BWW";
        }
        if (k == 0 || k == 2 || k == 7 || k >= 9 && k <= 17 || k >= 24 && k <= 26) {
            return "WW";
        }
        if (k == 8) {
            return "WWWW";
        }
        if (k == 18 || k >= 27 && k <= 29) {
            return "WWW";
        }
        if (k == 30 || k == 31) {
            return "1";
        }
        if (k >= 32 && k <= 35) {
            return "8W";
        }
        return k == 40 || k == 41 ? "H" : "W";
    }

    static String jetTarget(int k) {
        if (k <= 6) {
            return "BW";
        }
        if (k == 7 || k == 8) {
            return "WW";
        }
        if (k >= 11 && k <= 15 || k >= 19 && k <= 22) {
            return "B";
        }
        if (k == 36 || k == 37) {
            return "8";
        }
        return k == 38 || k == 39 ? "H" : "W";
    }

    static void findType(Node n) {
        Type a = open();
        Type b = open();
        Type c = open();
        Type d = open();
        switch (n.code) {
            case 0:
                unify(n.a.t, n.b.s);
                n.s = n.a.s;
                n.t = n.b.t;
                break;
            case 1:
                if (n.a.code != 11) {
                    unify(n.a.s, product(a, c));
                    unify(n.a.t, d);
                }
                if (n.b.code != 11) {
                    unify(n.b.s, product(b, c));
                    unify(n.b.t, d);
                }
                n.s = product(sum(a, b), c);
                n.t = d;
                break;
            case 2:
                unify(n.a.s, n.b.s);
                n.s = n.a.s;
                n.t = product(n.a.t, n.b.t);
                break;
            case 3:
                n.s = n.a.s;
                n.t = sum(n.a.t, c);
                break;
            case 4:
                n.s = n.a.s;
                n.t = sum(b, n.a.t);
                break;
            case 5:
                n.s = product(n.a.s, b);
                n.t = n.a.t;
                break;
            case 6:
                n.s = product(a, n.a.s);
                n.t = n.a.t;
                break;
            case 7:
                n.s = a;
                n.t = a;
                break;
            case 8:
                n.s = a;
                n.t = ONE;
                break;
            case 11:
                break;
            case 12:
                n.s = shape(jetSource(n.number / 4), 8 << n.number % 4);
                n.t = shape(jetTarget(n.number / 4), 8 << n.number % 4);
                break;
            default:
                n.s = a;
                n.t = b;
                break;
        }
    }

    static void leave(Node n, Set<Node> met, List<Node> left) {
        if (n == null || !met.add(n)) {
            return;
        }
        leave(n.a, met, left);
        leave(n.b, met, left);
        left.add(n);
    }

    static List<Node> ordered(Node last) {
        List<Node> left = new ArrayList<>();
        leave(last, java.util.Collections.newSetFromMap(new IdentityHashMap<>()), left);
        return left;
    }

    static boolean isHidden(Node n) {
        return n != null && n.code == 11;
    }

    /** The errors 7, 8, 9. */
    void judge(List<Node> nodes) {
        if (isHidden(nodes.get(nodes.size() - 1))) {
            throw new Refused(7, 0);
        }
        for (Node n : nodes) {
            boolean one = isHidden(n.a) || isHidden(n.b);
            boolean both = isHidden(n.a) && isHidden(n.b);
            if (one && n.code != 1 || both) {
                throw new Refused(7, 0);
            }
        }
        for (Node n : nodes) {
            findType(n);
        }
        for (Node n : nodes) {
            if (n.code != 11 && (width(n.s) > 2048 || width(n.t) > 2048)) {
                throw new Refused(9, 0);
            }
        }
    }

    String sameKey(Node n, Map<Node, Node> merged) {
        if (n.code == 10) {
            return null;
        }
        if (n.code == 11) {
            return "hidden " + n.bits;
        }
        Node a = n.a == null ? null : merged.get(n.a);
        Node b = n.b == null ? null : merged.get(n.b);
        return n.code + " " + (a == null ? -1 : a.index) + " " + (b == null ? -1 : b.index) + " " + n.number
                + " " + id(n.s) + " " + id(n.t);
    }

    // ---- programs

    static String bitsOf(byte[] bytes) {
        StringBuilder s = new StringBuilder();
        for (byte b : bytes) {
            s.append(String.format("%8s", Integer.toBinaryString(b & 255)).replace(' ', '0'));
        }
        return s.toString();
    }

    static byte[] bytesOf(String bits) {
        byte[] bytes = new byte[(bits.length() + 7) / 8];
        for (int i = 0; i < bits.length(); i++) {
            if (bits.charAt(i) == '1') {
                bytes[i / 8] |= (byte) (128 >> i % 8);
            }
        }
        return bytes;
    }

    private String bits;
    private int at;

    private String next(int n) {
        if (at + n > bits.length()) {
            throw new Refused(1, 0);
        }
        at += n;
        return bits.substring(at - n, at);
    }

    private int natural() {
        if (next(1).equals("0")) {
            return 1;
        }
        int k = natural();
        if (k > 15) {
            throw new Refused(4, 0);
        }
        return Integer.parseInt("1" + next(k), 2);
    }

    Prog load(byte[] bytes) {
        bits = bitsOf(bytes);
        at = 0;
        Prog p = new Prog();
        int count = natural();
        if (count > 400) {
            throw new Refused(4, 0);
        }
        for (int i = 0; i < count; i++) {
            p.nodes.add(readNode(p.nodes, i));
        }
        List<Node> order = ordered(p.last());
        if (!order.equals(p.nodes)) {
            throw new Refused(5, 0);
        }
        judge(p.nodes);
        Set<String> keys = new HashSet<>();
        Map<Node, Node> self = new IdentityHashMap<>();
        for (Node n : p.nodes) {
            self.put(n, n);
            String key = sameKey(n, self);
            if (key != null && !keys.add(key)) {
                throw new Refused(6, 0);
            }
        }
        int w = natural() - 1;
        p.witness = next(w);
        long wanted = 0;
        for (Node n : p.nodes) {
            wanted += n.code == 10 ? width(n.t) : 0;
        }
        if (wanted != w) {
            throw new Refused(10, 0);
        }
        int from = 0;
        for (Node n : p.nodes) {
            if (n.code == 10) {
                n.bits = p.witness.substring(from, from + width(n.t));
                from += width(n.t);
                if (!isValue(n.bits, n.t)) {
                    throw new Refused(11, 0);
                }
            }
        }
        String rest = bits.substring(at);
        if (rest.length() >= 8 || rest.contains("1")) {
            throw new Refused(12, 0);
        }
        for (Node n : p.nodes) {
            bound(n);
        }
        return p;
    }

    private Node readNode(List<Node> nodes, int i) {
        Node n = new Node();
        n.index = i;
        n.code = Integer.parseInt(next(5), 2);
        if (n.code > 12) {
            throw new Refused(2, 0);
        }
        if (n.code <= 6) {
            n.a = child(nodes, i);
        }
        if (n.code <= 2) {
            n.b = child(nodes, i);
        }
        if (n.code == 11) {
            n.bits = next(256);
        }
        if (n.code == 12) {
            n.number = Integer.parseInt(next(8), 2);
            if (n.number > 167) {
                throw new Refused(2, 0);
            }
        }
        return n;
    }

    private Node child(List<Node> nodes, int i) {
        int back = natural();
        if (i - back < 0) {
            throw new Refused(3, 0);
        }
        return nodes.get(i - back);
    }

    private void bound(Node n) {
        List<Node> kids = new ArrayList<>();
        if (n.a != null && n.a.code != 11) {
            kids.add(n.a);
        }
        if (n.b != null && n.b.code != 11) {
            kids.add(n.b);
        }
        long total = 0;
        long most = 0;
        for (Node k : kids) {
            n.cells = Math.max(n.cells, k.cells);
            n.frames = Math.max(n.frames, k.frames);
            total += k.steps;
            most = Math.max(most, k.steps);
        }
        n.steps = 1 + (n.code == 1 ? most : total);
        if (n.code == 0) {
            n.cells += width(n.a.t);
            n.frames += 1;
        }
        if (n.code == 7) {
            n.steps += width(n.s);
        }
        if (n.code == 10) {
            n.steps += width(n.t);
        }
        if (n.code == 12) {
            n.steps += width(n.s) + width(n.t);
        }
        if (n.code == 11) {
            n.steps = 0;
        }
        n.steps = Math.min(n.steps, Integer.MAX_VALUE);
        n.cells = Math.min(n.cells, Integer.MAX_VALUE);
    }

    // ---- values

    Value decode(String bits, Type type) {
        Type t = real(type);
        if (bits.length() != width(t)) {
            return null;
        }
        if (t.a == null) {
            return new Value('U', null, null);
        }
        if (t.kind == '*') {
            Value a = decode(bits.substring(0, width(t.a)), t.a);
            Value b = decode(bits.substring(width(t.a)), t.b);
            return a == null || b == null ? null : new Value('P', a, b);
        }
        Type part = bits.charAt(0) == '0' ? t.a : t.b;
        int zeros = width(t) - 1 - width(part);
        if (bits.substring(1, 1 + zeros).contains("1")) {
            return null;
        }
        Value v = decode(bits.substring(1 + zeros), part);
        return v == null ? null : new Value(bits.charAt(0) == '0' ? 'L' : 'R', v, null);
    }

    boolean isValue(String bits, Type t) {
        return decode(bits, t) != null;
    }

    String encode(Value v, Type type) {
        Type t = real(type);
        if (t.a == null) {
            return "";
        }
        if (t.kind == '*') {
            return encode(v.a, t.a) + encode(v.b, t.b);
        }
        Type part = v.kind == 'L' ? t.a : t.b;
        return (v.kind == 'L' ? "0" : "1") + "0".repeat(width(t) - 1 - width(part)) + encode(v.a, part);
    }

    /** The value that a row of bytes is, or null. */
    Value whole(byte[] bytes, Type t) {
        String all = bitsOf(bytes);
        int w = width(t);
        if (bytes.length != (w + 7) / 8 || all.substring(w).contains("1")) {
            return null;
        }
        return decode(all.substring(0, w), t);
    }

    String text(Value v, Type type) {
        Type t = real(type);
        for (int n = 4; n <= 2048; n *= 2) {
            if (width(t) == n && id(t) == id(word(n))) {
                StringBuilder s = new StringBuilder("#");
                String b = encode(v, t);
                for (int i = 0; i < n; i += 4) {
                    s.append(Integer.toHexString(Integer.parseInt(b.substring(i, i + 4), 2)));
                }
                return s.toString();
            }
        }
        if (t.a == null) {
            return "U";
        }
        if (id(t) == id(word(1))) {
            return v.kind == 'L' ? "0" : "1";
        }
        if (t.kind == '*') {
            return "(" + text(v.a, t.a) + "," + text(v.b, t.b) + ")";
        }
        return v.kind + text(v.a, v.kind == 'L' ? t.a : t.b);
    }

    // ---- working

    long usedCells;
    long usedFrames;
    long usedSteps;

    Value work(Prog p, Value v) {
        long[] used = new long[3];
        Value given = work(p.last(), v, used);
        usedCells = used[0] + width(p.last().s) + width(p.last().t);
        usedFrames = used[1] + 2;
        usedSteps = used[2];
        return given;
    }

    private Value work(Node n, Value v, long[] used) {
        long[] s = new long[3];
        long[] t = new long[3];
        Value given;
        long own = 1;
        switch (n.code) {
            case 0:
                given = work(n.b, work(n.a, v, s), t);
                break;
            case 1:
                given = v.a.kind == 'L' ? work(n.a, new Value('P', v.a.a, v.b), s)
                        : work(n.b, new Value('P', v.a.a, v.b), t);
                break;
            case 2:
                given = new Value('P', work(n.a, v, s), work(n.b, v, t));
                break;
            case 3:
                given = new Value('L', work(n.a, v, s), null);
                break;
            case 4:
                given = new Value('R', work(n.a, v, s), null);
                break;
            case 5:
                given = work(n.a, v.a, s);
                break;
            case 6:
                given = work(n.a, v.b, s);
                break;
            case 7:
                given = v;
                own += width(n.s);
                break;
            case 8:
                given = new Value('U', null, null);
                break;
            case 10:
                given = decode(n.bits, n.t);
                own += width(n.t);
                break;
            case 12:
                given = decode(jet(n.number, encode(v, n.s)), n.t);
                own += width(n.s) + width(n.t);
                break;
            default:
                throw new Failed();
        }
        used[0] = Math.max(s[0], t[0]) + (n.code == 0 ? width(n.a.t) : 0);
        used[1] = Math.max(s[1], t[1]) + (n.code == 0 ? 1 : 0);
        used[2] = s[2] + t[2] + own;
        return given;
    }

    static String binary(BigInteger n, int w) {
        String s = n.mod(BigInteger.ONE.shiftLeft(w)).toString(2);
        return "0".repeat(w - s.length()) + s;
    }

    static String truth(boolean b) {
        return b ? "1" : "0";
    }

    /** What a jet gives, bits of bits. */
    static String jet(int number, String in) {
        int k = number / 4;
        int w = 8 << number % 4;
        String shape = jetSource(k);
        int ahead = shape.startsWith("B") ? 1 : shape.startsWith("8") ? 8 : 0;
        BigInteger lead = ahead == 0 ? BigInteger.ZERO : new BigInteger(in.substring(0, ahead), 2);
        List<BigInteger> words = new ArrayList<>();
        int step = shape.equals("H") ? w / 2 : w;
        for (int i = ahead; i + step <= in.length(); i += step) {
            words.add(new BigInteger(in.substring(i, i + step), 2));
        }
        while (words.size() < 4) {
            words.add(BigInteger.ZERO);
        }
        BigInteger x = words.get(0);
        BigInteger y = words.get(1);
        BigInteger z = words.get(2);
        BigInteger v = words.get(3);
        BigInteger one = BigInteger.ONE;
        BigInteger full = one.shiftLeft(w);
        BigInteger half = one.shiftLeft(w - 1);
        switch (k) {
            case 0:
                return carry(x.add(y), w);
            case 1:
                return carry(x.add(y).add(lead), w);
            case 2:
                return carry(x.subtract(y), w);
            case 3:
                return carry(x.subtract(y).subtract(lead), w);
            case 4:
                return carry(x.add(one), w);
            case 5:
                return carry(x.subtract(one), w);
            case 6:
                return carry(x.negate(), w);
            case 7:
                return binary(x.multiply(y), 2 * w);
            case 8:
                return binary(x.multiply(y).add(z).add(v), 2 * w);
            case 9:
                return binary(y.signum() == 0 ? y : x.divide(y), w);
            case 10:
                return binary(y.signum() == 0 ? x : x.mod(y), w);
            case 11:
                return truth(x.signum() == 0 ? y.signum() == 0 : y.mod(x).signum() == 0);
            case 12:
                return truth(x.equals(y));
            case 13:
                return truth(x.compareTo(y) < 0);
            case 14:
                return truth(x.compareTo(y) <= 0);
            case 15:
                BigInteger sx = x.compareTo(half) >= 0 ? x.subtract(full) : x;
                BigInteger sy = y.compareTo(half) >= 0 ? y.subtract(full) : y;
                return truth(sx.compareTo(sy) < 0);
            case 16:
                return binary(x.min(y), w);
            case 17:
                return binary(x.max(y), w);
            case 18:
                BigInteger[] three = {x, y, z};
                Arrays.sort(three);
                return binary(three[1], w);
            case 19:
                return truth(x.signum() == 0);
            case 20:
                return truth(x.equals(one));
            case 21:
                return truth(x.bitCount() == w);
            case 22:
                return truth(x.bitCount() > 0);
            case 23:
                return in.replace('0', '2').replace('1', '0').replace('2', '1');
            case 24:
                return binary(x.and(y), w);
            case 25:
                return binary(x.or(y), w);
            case 26:
                return binary(x.xor(y), w);
            case 27:
                return binary(x.xor(y).xor(z), w);
            case 28:
                return binary(x.and(y).or(x.and(z)).or(y.and(z)), w);
            case 29:
                return binary(x.and(y).or(full.subtract(one).subtract(x).and(z)), w);
            case 30:
                return "0".repeat(w);
            case 31:
                return "1".repeat(w);
            default:
                return moved(k, w, in, lead.intValue());
        }
    }

    private static String moved(int k, int w, String in, int n) {
        String x = in.substring(k < 36 ? 8 : 0);
        switch (k) {
            case 32:
                return n >= w ? "0".repeat(w) : x.substring(n) + "0".repeat(n);
            case 33:
                return n >= w ? "0".repeat(w) : "0".repeat(n) + x.substring(0, w - n);
            case 34:
                return x.substring(n % w) + x.substring(0, n % w);
            case 35:
                return x.substring(w - n % w) + x.substring(0, w - n % w);
            case 36:
                return binary(BigInteger.valueOf(x.chars().filter(c -> c == '1').count()), 8);
            case 37:
                return binary(BigInteger.valueOf(x.contains("1") ? x.indexOf('1') : w), 8);
            case 38:
                return x.substring(0, w / 2);
            case 39:
                return x.substring(w / 2);
            case 40:
                return "0".repeat(w / 2) + x;
            default:
                return x + "0".repeat(w / 2);
        }
    }

    private static String carry(BigInteger n, int w) {
        boolean out = n.signum() < 0 || n.bitLength() > w;
        return truth(out) + binary(n, w);
    }

    // ---- roots

    private static int[] primes(int n) {
        int[] primes = new int[n];
        int count = 0;
        for (int i = 2; count < n; i++) {
            if (BigInteger.valueOf(i).isProbablePrime(50)) {
                primes[count++] = i;
            }
        }
        return primes;
    }

    /** The first 32 bits of the fraction of a prime's square or cube root. */
    private static int fraction(int prime, int power) {
        BigInteger scaled = BigInteger.valueOf(prime).shiftLeft(32 * power);
        BigInteger low = BigInteger.ZERO;
        BigInteger high = BigInteger.ONE.shiftLeft(64);
        while (high.subtract(low).compareTo(BigInteger.ONE) > 0) {
            BigInteger mid = low.add(high).shiftRight(1);
            if (mid.pow(power).compareTo(scaled) <= 0) {
                low = mid;
            } else {
                high = mid;
            }
        }
        return low.intValue();
    }

    private static final int[] K = new int[64];
    private static final int[] F = new int[8];

    static {
        int[] primes = primes(64);
        for (int i = 0; i < 64; i++) {
            K[i] = fraction(primes[i], 3);
        }
        for (int i = 0; i < 8; i++) {
            F[i] = fraction(primes[i], 2);
        }
    }

    static int[] compress(int[] start, int[] m) {
        int[] w = Arrays.copyOf(m, 64);
        for (int t = 16; t < 64; t++) {
            int s0 = Integer.rotateRight(w[t - 15], 7) ^ Integer.rotateRight(w[t - 15], 18) ^ w[t - 15] >>> 3;
            int s1 = Integer.rotateRight(w[t - 2], 17) ^ Integer.rotateRight(w[t - 2], 19) ^ w[t - 2] >>> 10;
            w[t] = s1 + w[t - 7] + s0 + w[t - 16];
        }
        int[] r = start.clone();
        for (int t = 0; t < 64; t++) {
            int e = r[4];
            int a = r[0];
            int x = r[7] + (Integer.rotateRight(e, 6) ^ Integer.rotateRight(e, 11) ^ Integer.rotateRight(e, 25))
                    + ((e & r[5]) ^ (~e & r[6])) + K[t] + w[t];
            int v = (Integer.rotateRight(a, 2) ^ Integer.rotateRight(a, 13) ^ Integer.rotateRight(a, 22))
                    + ((a & r[1]) ^ (a & r[2]) ^ (r[1] & r[2]));
            r = new int[] {x + v, r[0], r[1], r[2], r[3] + x, r[4], r[5], r[6]};
        }
        for (int i = 0; i < 8; i++) {
            r[i] += start[i];
        }
        return r;
    }

    static int[] leaf(int x) {
        int[] m = new int[16];
        m[0] = x;
        return compress(F, m);
    }

    static int[] both(int[] a, int[] b) {
        int[] m = Arrays.copyOf(a, 16);
        System.arraycopy(b, 0, m, 8, 8);
        return m;
    }

    static int[] root(Node n) {
        if (n.code == 11) {
            int[] words = new int[8];
            for (int i = 0; i < 8; i++) {
                words[i] = (int) Long.parseLong(n.bits.substring(32 * i, 32 * i + 32), 2);
            }
            return words;
        }
        if (n.code == 12) {
            return leaf(32 + n.number);
        }
        if (n.a == null) {
            return leaf(n.code);
        }
        return compress(leaf(n.code), n.b == null ? both(new int[8], root(n.a)) : both(root(n.a), root(n.b)));
    }

    // ---- speeches

    static String naturalBits(long n) {
        if (n == 1) {
            return "0";
        }
        String s = Long.toBinaryString(n);
        return "1" + naturalBits(s.length() - 1) + s.substring(1);
    }

    static String encodeProgram(List<Node> nodes) {
        StringBuilder s = new StringBuilder(naturalBits(nodes.size()));
        StringBuilder w = new StringBuilder();
        for (int i = 0; i < nodes.size(); i++) {
            Node n = nodes.get(i);
            s.append(binary(BigInteger.valueOf(n.code), 5));
            if (n.a != null) {
                s.append(naturalBits(i - nodes.indexOf(n.a)));
            }
            if (n.b != null) {
                s.append(naturalBits(i - nodes.indexOf(n.b)));
            }
            if (n.code == 11) {
                s.append(n.bits);
            }
            if (n.code == 12) {
                s.append(binary(BigInteger.valueOf(n.number), 8));
            }
            if (n.code == 10) {
                w.append(n.bits);
            }
        }
        return s + naturalBits(w.length() + 1) + w;
    }

    static String speech(Prog p) {
        StringBuilder s = new StringBuilder();
        for (Node n : p.nodes) {
            s.append("n").append(n.index).append(" = ").append(WORDS[n.code]);
            if (n.a != null) {
                s.append(" n").append(n.a.index);
            }
            if (n.b != null) {
                s.append(" n").append(n.b.index);
            }
            if (n.code == 12) {
                s.append(" ").append(n.number);
            }
            if (n.code == 10) {
                s.append(" ").append(n.bits.isEmpty() ? "-" : n.bits);
            }
            if (n.code == 11) {
                String hex = new BigInteger(n.bits, 2).toString(16);
                s.append(" ").append("0".repeat(64 - hex.length())).append(hex);
            }
            s.append("\n");
        }
        return s.toString();
    }

    private String talk;
    private int spot;
    private int wordAt;
    private int made;
    private Map<String, Node> names;

    /** The next word, "" at the end; strange bytes are refused when they are met. */
    private String word() {
        while (spot < talk.length() && (talk.charAt(spot) == 10 || talk.charAt(spot) == 32)) {
            spot++;
        }
        wordAt = spot;
        if (spot == talk.length()) {
            return "";
        }
        if ("=()".indexOf(talk.charAt(spot)) >= 0) {
            spot++;
            return talk.substring(wordAt, spot);
        }
        while (spot < talk.length() && talk.charAt(spot) >= 33 && talk.charAt(spot) <= 126
                && "=()".indexOf(talk.charAt(spot)) < 0) {
            spot++;
        }
        if (spot == wordAt) {
            throw new Refused(1, wordAt);
        }
        return talk.substring(wordAt, spot);
    }

    private static boolean isTongue(String w) {
        return Arrays.asList(WORDS).contains(w) || w.equals("new");
    }

    private static boolean canBeName(String w) {
        return w.matches("[a-z][a-z0-9]{0,7}") && !isTongue(w);
    }

    private Node told(String w) {
        if (!canBeName(w)) {
            throw new Refused(1, wordAt);
        }
        Node n = names.get(w);
        if (n == null) {
            throw new Refused(2, wordAt);
        }
        return n;
    }

    private Node expression() {
        String w = word();
        int place = wordAt;
        if (w.equals("(")) {
            Node n = expression();
            if (!word().equals(")")) {
                throw new Refused(1, wordAt);
            }
            return n;
        }
        if (w.equals("new")) {
            Node old = told(word());
            List<Node> all = ordered(old);
            if (made + all.size() > 2000) {
                throw new Refused(3, place);
            }
            made += all.size();
            Map<Node, Node> copies = new IdentityHashMap<>();
            for (Node n : all) {
                Node c = new Node();
                c.code = n.code;
                c.number = n.number;
                c.bits = n.bits;
                c.a = copies.get(n.a);
                c.b = copies.get(n.b);
                copies.put(n, c);
            }
            return copies.get(old);
        }
        int code = Arrays.asList(WORDS).indexOf(w);
        if (code < 0) {
            return told(w);
        }
        if (++made > 2000) {
            throw new Refused(3, place);
        }
        Node n = new Node();
        n.code = code;
        if (code <= 6) {
            n.a = expression();
        }
        if (code <= 2) {
            n.b = expression();
        }
        if (code >= 10) {
            readOperand(n, word());
        }
        return n;
    }

    private void readOperand(Node n, String w) {
        boolean good;
        if (n.code == 10) {
            good = w.equals("-") || w.matches("[01]+");
            n.bits = w.equals("-") ? "" : w;
        } else if (n.code == 11) {
            good = w.matches("[0-9a-f]{64}");
            n.bits = good ? binary(new BigInteger(w, 16), 256) : "";
        } else {
            good = w.matches("[0-9]{1,3}") && Integer.parseInt(w) <= 167;
            n.number = good ? Integer.parseInt(w) : 0;
        }
        if (!good) {
            throw new Refused(1, wordAt);
        }
    }

    /** The last definition's node. */
    Node parse(byte[] bytes) {
        StringBuilder s = new StringBuilder();
        for (byte b : bytes) {
            s.append((char) (b & 255));
        }
        talk = s.toString();
        spot = 0;
        made = 0;
        names = new LinkedHashMap<>();
        Node last = null;
        for (String name = word(); last == null || !name.isEmpty(); name = word()) {
            int place = wordAt;
            if (!canBeName(name)) {
                throw new Refused(1, place);
            }
            if (names.containsKey(name)) {
                throw new Refused(2, place);
            }
            if (!word().equals("=")) {
                throw new Refused(1, wordAt);
            }
            last = expression();
            names.put(name, last);
        }
        return last;
    }

    /** How many bytes the program's text has, however many these are. */
    int sizeOf(byte[] bytes) {
        return bytesOf(encodeProgram(said(bytes))).length;
    }

    byte[] say(byte[] bytes) {
        byte[] text = bytesOf(encodeProgram(said(bytes)));
        if (text.length > 8192) {
            throw new Refused(4, 0);
        }
        return text;
    }

    private List<Node> said(byte[] bytes) {
        Node last = parse(bytes);
        List<Node> nodes = ordered(last);
        judge(nodes);
        Map<Node, Node> merged = new IdentityHashMap<>();
        Map<String, Node> byKey = new HashMap<>();
        int index = 0;
        for (Node n : nodes) {
            n.index = index++;
            String key = sameKey(n, merged);
            Node first = key == null ? null : byKey.get(key);
            if (first == null) {
                n.a = n.a == null ? null : merged.get(n.a);
                n.b = n.b == null ? null : merged.get(n.b);
                byKey.put(key == null ? "witness " + index : key, n);
                first = n;
            }
            merged.put(n, first);
        }
        List<Node> left = ordered(merged.get(last));
        if (left.size() > 400) {
            throw new Refused(4, 0);
        }
        for (Node n : left) {
            if (n.code == 10 && n.bits.length() != width(n.t)) {
                throw new Refused(10, 0);
            }
        }
        for (Node n : left) {
            if (n.code == 10 && !isValue(n.bits, n.t)) {
                throw new Refused(11, 0);
            }
        }
        return left;
    }
}

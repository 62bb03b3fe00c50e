/** A ComboHouse whose calls are counted: the document promises nothing behind the 512th. */
final class House {
    static final int CALLS = 512;

    private final ComboHouse x = new ComboHouse();
    private int calls;

    private ComboHouse called() {
        calls++;
        if (calls == CALLS + 1) {
            Checks.due("calls of one object" + Checks.at(new Throwable()), calls, CALLS);
        }
        return x;
    }

    int left() {
        return CALLS - calls;
    }

    int feed(int n, long v) {
        return called().feed(n, v);
    }

    int wipe() {
        return called().wipe();
    }

    int load() {
        return called().load();
    }

    int run(int steps, int cells, boolean defined) {
        return called().run(steps, cells, defined);
    }

    int node(int i, int what) {
        return called().node(i, what);
    }

    long root(int i, int k) {
        return called().root(i, k);
    }

    long typeRoot(int i, boolean target, int k) {
        return called().typeRoot(i, target, k);
    }

    int type(int i, boolean target) {
        return called().type(i, target);
    }

    int say() {
        return called().say();
    }

    int speak() {
        return called().speak();
    }

    int again() {
        return called().again();
    }

    int value(int i, boolean target) {
        return called().value(i, target);
    }

    int worth(int i, boolean target) {
        return called().worth(i, target);
    }

    int write() {
        return called().write();
    }

    long out(int k) {
        return called().out(k);
    }

    int look(int what) {
        return called().look(what);
    }

    // ---- calls with whole rows

    /** The bytes come behind the tape. */
    void put(byte[] bytes) {
        for (int i = 0; i < bytes.length; i += 8) {
            int n = Math.min(8, bytes.length - i);
            long v = 0;
            for (int k = n - 1; k >= 0; k--) {
                v = v << 8 | bytes[i + k] & 255;
            }
            feed(n, v);
        }
    }

    void put(String text) {
        put(Checks.bytes(text));
    }

    void putBits(String bits) {
        put(Checks.bits(bits));
    }

    byte[] outBytes() {
        byte[] bytes = new byte[look(8)];
        for (int i = 0; i < bytes.length; i += 8) {
            long v = out(i);
            for (int k = 0; k < 8 && i + k < bytes.length; k++) {
                bytes[i + k] = (byte) (v >>> 8 * k);
            }
        }
        return bytes;
    }

    int say(String text) {
        put(text);
        return say();
    }

    int load(String bits) {
        putBits(bits);
        return load();
    }

    int run(String bits, boolean defined) {
        putBits(bits);
        return run(1000000, 1000000, defined);
    }

    /** Says and loads. */
    House build(String text) {
        Checks.due("say " + Checks.shown(text), say(text), 0);
        again();
        Checks.due("load " + Checks.shown(text), load(), 0);
        return this;
    }

    static House of(String text) {
        return new House().build(text);
    }

    static House ofBits(String bits) {
        House house = new House();
        Checks.due("load " + Checks.shown(bits), house.load(bits), 0);
        return house;
    }

    /** All that can be looked at without a change: the numbers, OUT's ends and the program's. */
    String state() {
        StringBuilder s = new StringBuilder();
        for (int i = 0; i <= 14; i++) {
            s.append(look(i)).append(' ');
        }
        int size = look(8);
        if (size > 0) {
            s.append(out(0)).append(' ').append(out(size - 1)).append(' ');
        }
        int nodes = look(0);
        if (nodes > 0) {
            s.append(node(nodes - 1, 0)).append(' ').append(root(nodes - 1, 0)).append(' ');
            s.append(typeRoot(nodes - 1, true, 0));
        }
        return s.toString();
    }
}

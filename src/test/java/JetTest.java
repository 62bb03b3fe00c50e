import java.util.Random;

/** Each jet, worked and defined, against big numbers: at the edges of words, and at random. */
public final class JetTest {
    private static final Random RANDOM = new Random(20261115);

    private JetTest() {
    }

    public static void main(String[] args) {
        for (int number = 0; number < 168; number++) {
            House x = House.of("a = jet " + number);
            int wide = x.look(1);
            for (int i = 0; i < 60; i++) {
                if (x.left() < 50) {
                    x = House.of("a = jet " + number);
                }
                check(x, number, input(number, wide, i));
            }
        }
        Checks.end();
    }

    private static void check(House x, int number, String in) {
        byte[] want = Checks.bits(Oracle.jet(number, in));
        int given = Oracle.jet(number, in).length();
        Checks.feed(x, Checks.bits(in));
        Checks.due("run jet " + number + " of " + in, x.run(1 + in.length() + given, 100000, false), want.length);
        Checks.due("jet " + number + " of " + in, Checks.out(x), want);
        Checks.due("steps of jet " + number, x.look(13), 1 + in.length() + given);
        Checks.feed(x, Checks.bits(in));
        Checks.due("run defined jet " + number + " of " + in, x.run(1000, 100000, true), want.length);
        Checks.due("defined jet " + number + " of " + in, Checks.out(x), want);
    }

    /** Words that are all 0, all 1, 1, the highest bit alone, few bits, or any. */
    private static String input(int number, int wide, int i) {
        int w = 8 << number % 4;
        StringBuilder s = new StringBuilder();
        String shape = Oracle.jetSource(number / 4);
        if (shape.startsWith("B")) {
            s.append(RANDOM.nextInt(2));
        }
        if (shape.startsWith("8")) {
            int n = i < 40 ? RANDOM.nextInt(w + 2) : RANDOM.nextInt(256);
            s.append(Oracle.binary(java.math.BigInteger.valueOf(n), 8));
        }
        int step = shape.equals("H") ? w / 2 : w;
        String before = null;
        while (s.length() < wide) {
            String word = before != null && RANDOM.nextInt(5) == 0 ? before : word(step);
            s.append(word);
            before = word;
        }
        return s.toString();
    }

    private static String word(int w) {
        switch (RANDOM.nextInt(8)) {
            case 0:
                return "0".repeat(w);
            case 1:
                return "1".repeat(w);
            case 2:
                return "0".repeat(w - 1) + "1";
            case 3:
                return "1" + "0".repeat(w - 1);
            case 4:
                int n = RANDOM.nextInt(w);
                return "0".repeat(n) + any(w - n);
            case 5:
                return "1".repeat(w - 1) + "0";
            default:
                return any(w);
        }
    }

    private static String any(int w) {
        StringBuilder s = new StringBuilder();
        for (int i = 0; i < w; i++) {
            s.append(RANDOM.nextInt(2));
        }
        return s.toString();
    }
}

import java.util.ArrayList;
import java.util.Arrays;
import java.util.List;
import java.util.NoSuchElementException;
import java.util.Random;

/** Calls at random, with rows as long as may be: nothing is thrown but what the document names. */
public final class WildTest {
    private static final Random RANDOM = new Random(17);
    private static final int[] ODD = {Integer.MIN_VALUE, -1, 0, 1, 2, 7, 8, 9, 14, 15, 399, 400, Integer.MAX_VALUE};

    private WildTest() {
    }

    public static void main(String[] args) {
        for (int i = 0; i < 1500; i++) {
            House x = new House();
            while (x.left() > 12) {
                call(x);
            }
        }
        deepest();
        Checks.end();
    }

    private static int any(int n) {
        return RANDOM.nextInt(n);
    }

    private static int number() {
        return any(3) == 0 ? ODD[any(ODD.length)] : any(12);
    }

    private static void call(House x) {
        int which = any(22);
        try {
            answer(x, which);
            Checks.due("a call", true);
        } catch (IllegalArgumentException e) {
            Checks.due("IllegalArgumentException of " + which, which == 0 || which == 3 || which == 15);
        } catch (IllegalStateException e) {
            Checks.due("IllegalStateException of " + which, which == 0 || which == 3 || which == 9 || which == 13);
        } catch (NoSuchElementException e) {
            Checks.due("NoSuchElementException of " + which, which >= 4 && which <= 7 || which == 11 || which == 12
                    || which == 14);
        } catch (RuntimeException e) {
            Checks.due("call " + which + " threw " + e + " at " + e.getStackTrace()[0], false);
        }
        int told = x.look(0);
        Checks.due("nodes", told >= 0 && told <= 400);
        Checks.due("rows", x.look(7) <= 8192 && x.look(8) <= 8192);
    }

    private static void answer(House x, int which) {
        switch (which) {
            case 0:
                x.feed(any(5) == 0 ? number() : 1 + any(8), RANDOM.nextLong());
                break;
            case 1:
                x.wipe();
                break;
            case 2:
                x.load();
                break;
            case 3:
                x.run(number(), number(), any(2) == 0);
                break;
            case 4:
                x.node(number(), number());
                break;
            case 5:
                x.root(number(), number());
                break;
            case 6:
                x.typeRoot(number(), any(2) == 0, number());
                break;
            case 7:
                x.type(number(), any(2) == 0);
                break;
            case 8:
                x.say();
                break;
            case 9:
                x.speak();
                break;
            case 10:
                x.again();
                break;
            case 11:
                x.value(number(), any(2) == 0);
                break;
            case 12:
                x.worth(number(), any(2) == 0);
                break;
            case 13:
                x.write();
                break;
            case 14:
                x.out(number());
                break;
            case 15:
                x.look(number());
                break;
            default:
                longCall(x, which);
                break;
        }
    }

    /** As much of it as the calls that are left can feed. */
    private static void feed(House x, byte[] bytes) {
        int most = Math.max(0, 8 * (x.left() - 8));
        Checks.feed(x, bytes.length > most ? Arrays.copyOf(bytes, most) : bytes);
    }

    private static void longCall(House x, int which) {
        switch (which) {
            case 16:
                feed(x, Checks.bytes(speech()));
                x.say();
                break;
            case 17:
                feed(x, program());
                x.load();
                break;
            case 18:
                if (x.look(0) > 0) {
                    feed(x, new byte[(x.look(1) + 7) / 8]);
                    x.run(300000, 1000000, any(8) == 0);
                }
                break;
            case 19:
                byte[] noise = new byte[any(3) == 0 ? 2000 : any(300)];
                RANDOM.nextBytes(noise);
                feed(x, noise);
                break;
            case 20:
                feed(x, Checks.bytes(speech()));
                x.say();
                x.again();
                x.load();
                break;
            default:
                byte[] spoilt = program();
                spoilt[any(spoilt.length)] ^= (byte) (1 << any(8));
                feed(x, spoilt);
                x.load();
                break;
        }
    }

    private static final String[] WORDS = {"comp ", "case ", "pair ", "left ", "right ", "take ", "drop ", "iden ",
        "unit ", "fail ", "witness - ", "witness 0 ", "new a ", "a ", "b ", "(", ")", "jet 0 ", "jet 92 "};

    /** Mostly well formed, and some as long as may be. */
    private static String speech() {
        StringBuilder s = new StringBuilder("a = ");
        int length = any(8) == 0 ? 3000 : any(300);
        int style = any(4);
        for (int name = 0; s.length() < length; name++) {
            int open = 1;
            while (open > 0) {
                int code = s.length() > length ? 7 + any(4) : style == 1 ? any(7) : any(12);
                String word = style == 2 && any(30) == 0 ? WORDS[any(WORDS.length)] : WORDS[code];
                if (code > 6 && name > 0 && any(2) == 0) {
                    word = any(2) == 0 ? "new x" + any(name) + " " : "x" + any(name) + " ";
                }
                s.append(word);
                open += code <= 2 ? 1 : code <= 6 ? 0 : -1;
            }
            s.append("\nx").append(name).append(" = ");
        }
        String all = s + "unit";
        return all;
    }

    private static List<Oracle.Node> made;

    private static Oracle.Node node(int depth) {
        if (made.size() > 396 || !made.isEmpty() && any(3) == 0) {
            return made.isEmpty() ? new Oracle.Node() : made.get(any(made.size()));
        }
        Oracle.Node n = new Oracle.Node();
        n.code = depth <= 0 ? 7 + any(4) : any(10);
        n.a = n.code <= 6 ? node(depth - 1) : null;
        n.b = n.code <= 2 ? node(depth - 1) : null;
        if (n.code == 7 && any(4) == 0) {
            n.code = 12;
            n.number = any(168);
        }
        made.add(n);
        return n;
    }

    private static byte[] program() {
        made = new ArrayList<>();
        Oracle.Node last = node(any(40));
        return Checks.bits(Oracle.encodeProgram(Oracle.ordered(last)));
    }

    /** As many nodes as may be made, each with as many types as may be. */
    private static void deepest() {
        String half = "a = " + "case ".repeat(249) + "unit ".repeat(250) + "b = new a c = new a ";
        Checks.due("cases", new House().say(half + "d = pair (pair a b) (pair c unit)"), 0);
        Checks.due("nodes", new House().say(half + "d = new a e = unit"), 0);
        String fails = "a = " + "case ".repeat(249) + "fail ".repeat(250) + "b = pair a new a c = pair b witness - ";
        Checks.due("cases of any", new House().say(fails + "d = pair a new b") >= 0);
        Checks.due("left", new House().say("a = " + "left ".repeat(700) + "unit"), 4);
        Checks.due("takes", new House().say("a = " + "take ".repeat(499) + "iden b = new a c = new a d = new a"), 4);
        Checks.due("takes of takes", new House().say("a = " + "take ".repeat(499) + "iden b = comp a new a"), 4);
        StringBuilder s = new StringBuilder("a=iden ");
        String last = "a";
        for (int i = 1; i < 180; i++) {
            String name = "x" + i;
            s.append(name).append("=pair ").append(last).append(" ").append(last).append(" ");
            last = name;
        }
        Checks.due("pairs", new House().say(s + "z = comp jet 0 " + last), 9);
        House x = House.ofBits(Bits.program(Rows.pairNodes(399)));
        Checks.due("root", x.root(398, 0) >= 0);
        Checks.due("type's root", x.typeRoot(398, true, 0) >= 0);
        Checks.due("value", x.value(398, true), -1);
        Checks.due("worth", x.worth(398, true), -4);
        Checks.due("type", x.type(398, true), -1);
        Checks.due("run", x.run(Integer.MAX_VALUE, Integer.MAX_VALUE, true), -2);
        String[] drops = new String[398];
        drops[0] = "8";
        for (int i = 1; i < 398; i++) {
            drops[i] = "6 1";
        }
        House y = House.ofBits(Bits.program(drops));
        Checks.due("value", y.value(397, false), 4 * 397 + 1);
        y.again();
        Checks.due("worth", y.worth(397, false), 0);
        Checks.due("run", y.run(398, 1, false), 0);
    }
}

import java.util.ArrayList;
import java.util.List;
import java.util.NoSuchElementException;
import java.util.Random;

/** Calls at random, with rows as long as may be: nothing is thrown but what the document names. */
public final class WildTest {
    private static final Random RANDOM = new Random(17);
    private static final int[] ODD = {Integer.MIN_VALUE, -1, 0, 1, 2, 7, 8, 9, 14, 15, 399, 400, Integer.MAX_VALUE};

    private WildTest() {
    }

    public static void main(String[] args) {
        for (int i = 0; i < 400; i++) {
            ComboHouse x = new ComboHouse();
            for (int k = 0; k < 400; k++) {
                call(x);
            }
        }
        deepest();
        Checks.end();
    }

    private static int any(int n) {
        return RANDOM.nextInt(n);
    }

    private static int number() {
        return any(3) == 0 ? ODD[any(ODD.length)] : any(12);
    }

    private static void call(ComboHouse x) {
        int which = any(22);
        try {
            answer(x, which);
            Checks.due("a call", true);
        } catch (IllegalArgumentException e) {
            Checks.due("IllegalArgumentException of " + which, which == 0 || which == 3 || which == 15);
        } catch (IllegalStateException e) {
            Checks.due("IllegalStateException of " + which, which == 0 || which == 3 || which == 9 || which == 13);
        } catch (NoSuchElementException e) {
            Checks.due("NoSuchElementException of " + which, which >= 4 && which <= 7 || which == 11 || which == 12
                    || which == 14);
        } catch (RuntimeException e) {
            Checks.due("call " + which + " threw " + e + " at " + e.getStackTrace()[0], false);
        }
        int told = x.look(0);
        Checks.due("nodes", told >= 0 && told <= 400);
        Checks.due("rows", x.look(7) <= 8192 && x.look(8) <= 8192);
    }

    private static void answer(ComboHouse x, int which) {
        switch (which) {
            case 0:
                x.feed(any(5) == 0 ? number() : 1 + any(8), RANDOM.nextLong());
                break;
            case 1:
                x.wipe();
                break;
            case 2:
                x.load();
                break;
            case 3:
                x.run(number(), number(), any(2) == 0);
                break;
            case 4:
                x.node(number(), number());
                break;
            case 5:
                x.root(number(), number());
                break;
            case 6:
                x.typeRoot(number(), any(2) == 0, number());
                break;
            case 7:
                x.type(number(), any(2) == 0);
                break;
            case 8:
                x.say();
                break;
            case 9:
                x.speak();
                break;
            case 10:
                x.again();
                break;
            case 11:
                x.value(number(), any(2) == 0);
                break;
            case 12:
                x.worth(number(), any(2) == 0);
                break;
            case 13:
                x.write();
                break;
            case 14:
                x.out(number());
                break;
            case 15:
                x.look(number());
                break;
            default:
                longCall(x, which);
                break;
        }
    }

    private static void longCall(ComboHouse x, int which) {
        switch (which) {
            case 16:
                Checks.say(x, speech());
                break;
            case 17:
                Checks.load(x, program());
                break;
            case 18:
                if (x.look(0) > 0) {
                    Checks.feed(x, new byte[(x.look(1) + 7) / 8]);
                    x.run(300000, 1000000, any(8) == 0);
                }
                break;
            case 19:
                byte[] noise = new byte[any(3) == 0 ? 8192 : any(300)];
                RANDOM.nextBytes(noise);
                Checks.feed(x, noise);
                break;
            case 20:
                Checks.say(x, speech());
                x.again();
                x.load();
                break;
            default:
                byte[] spoilt = program();
                spoilt[any(spoilt.length)] ^= (byte) (1 << any(8));
                Checks.load(x, spoilt);
                break;
        }
    }

    private static final String[] WORDS = {"comp ", "case ", "pair ", "left ", "right ", "take ", "drop ", "iden ",
        "unit ", "fail ", "witness - ", "witness 0 ", "new a ", "a ", "b ", "(", ")", "jet 0 ", "jet 92 "};

    /** Mostly well formed, and some as long as may be. */
    private static String speech() {
        StringBuilder s = new StringBuilder("a = ");
        int length = any(4) == 0 ? 8000 : any(300);
        int style = any(4);
        for (int name = 0; s.length() < length; name++) {
            int open = 1;
            while (open > 0) {
                int code = s.length() > length ? 7 + any(4) : style == 1 ? any(7) : any(12);
                String word = style == 2 && any(30) == 0 ? WORDS[any(WORDS.length)] : WORDS[code];
                if (code > 6 && name > 0 && any(2) == 0) {
                    word = any(2) == 0 ? "new x" + any(name) + " " : "x" + any(name) + " ";
                }
                s.append(word);
                open += code <= 2 ? 1 : code <= 6 ? 0 : -1;
            }
            s.append("\nx").append(name).append(" = ");
        }
        String all = s + "unit";
        return all.length() > 8192 ? all.substring(0, 8192) : all;
    }

    private static List<Oracle.Node> made;

    private static Oracle.Node node(int depth) {
        if (made.size() > 396 || !made.isEmpty() && any(3) == 0) {
            return made.isEmpty() ? new Oracle.Node() : made.get(any(made.size()));
        }
        Oracle.Node n = new Oracle.Node();
        n.code = depth <= 0 ? 7 + any(4) : any(10);
        n.a = n.code <= 6 ? node(depth - 1) : null;
        n.b = n.code <= 2 ? node(depth - 1) : null;
        if (n.code == 7 && any(4) == 0) {
            n.code = 12;
            n.number = any(168);
        }
        made.add(n);
        return n;
    }

    private static byte[] program() {
        made = new ArrayList<>();
        Oracle.Node last = node(any(40));
        return Checks.bits(Oracle.encodeProgram(Oracle.ordered(last)));
    }

    /** As many nodes as may be made, each with as many types as may be. */
    private static void deepest() {
        ComboHouse x = new ComboHouse();
        String half = "case ".repeat(499) + "unit " + "unit ".repeat(499);
        Checks.due("cases", Checks.say(x, "a = " + half + "b = pair a new a"), 4);
        Checks.due("nodes", Checks.say(x, "a = " + half + "b = new a c = unit"), 0);
        String fails = "a = " + "case ".repeat(499) + "fail " + "fail ".repeat(499);
        Checks.due("cases of any", Checks.say(x, fails + "b = pair a new a") >= 0);
        Checks.due("left", Checks.say(x, "a = " + "left ".repeat(1600) + "unit") >= 0);
        Checks.due("takes", Checks.say(x, "a = " + "take ".repeat(999) + "iden b = new a"), 4);
        StringBuilder s = new StringBuilder("x0 = iden ");
        for (int i = 1; i < 399; i++) {
            s.append("x").append(i).append("=pair x").append(i - 1).append(" x").append(i - 1).append(" ");
        }
        Checks.due("pairs", Checks.say(x, s + "z = comp jet 0 x398"), 9);
        Checks.due("pairs of nothing", Checks.build(x, s.toString()), 0);
        Checks.due("root", x.root(398, 0) >= 0);
        Checks.due("type's root", x.typeRoot(398, true, 0) >= 0);
        Checks.due("value", x.value(398, true), -1);
        Checks.due("worth", x.worth(398, true), -4);
        Checks.due("type", x.type(398, true), -1);
        Checks.due("run", x.run(Integer.MAX_VALUE, Integer.MAX_VALUE, true), -2);
        StringBuilder deep = new StringBuilder("x0 = unit ");
        for (int i = 1; i < 398; i++) {
            deep.append("x").append(i).append("=drop x").append(i - 1).append(" ");
        }
        Checks.due("drops", Checks.build(x, deep.toString()), 0);
        Checks.due("value", x.value(397, false), 4 * 397 + 1);
        x.again();
        Checks.due("worth", x.worth(397, false), 0);
        Checks.due("run", x.run(398, 1, false), 0);
    }
}

import java.util.NoSuchElementException;

/** Promise 9: the text of node i's source or target; -2 and -1, with which OUT stays. */
public final class Promise09TypeTest {
    private Promise09TypeTest() {
    }

    public static void main(String[] args) {
        Checks.test("promise 9: no such node", Promise09TypeTest::noNode);
        Checks.test("promise 9: -2 for a HIDDEN node", Promise09TypeTest::hidden);
        Checks.test("promise 9: 1; (a+b); (a*b)", Promise09TypeTest::texts);
        Checks.test("promise 9: the types that the document tells of each code", Promise09TypeTest::rules);
        Checks.test("promise 9: 297 bytes and 301, of sums", Promise09TypeTest::longSums);
        Checks.test("promise 9: 297 bytes and 301, of products", Promise09TypeTest::longProducts);
        Checks.test("promise 9: 297 bytes and 301, of a source", Promise09TypeTest::longSources);
        Checks.test("promise 9: lengths that would wrap around", Promise09TypeTest::wrap);
        Checks.test("promise 9: with -1 and -2 OUT stays", Promise09TypeTest::outStays);
        Checks.test("promise 9: nothing but OUT changes", Promise09TypeTest::nothingElse);
        Checks.end();
    }

    private static void due(House x, int i, boolean target, String want) {
        Checks.due("type of " + i, x.type(i, target), want.length());
        Checks.due("text of " + i, x.outBytes(), Checks.bytes(want));
    }

    private static void noNode() {
        House x = House.ofBits(Bits.program("8", "3 1", "3 1"));
        for (int i : new int[] {-1, 3, 4, 400, Integer.MAX_VALUE, Integer.MIN_VALUE}) {
            Checks.dueThrows("source of " + i, NoSuchElementException.class, () -> x.type(i, false));
            Checks.dueThrows("target of " + i, NoSuchElementException.class, () -> x.type(i, true));
        }
        Checks.dueRefused("source of 3", x, NoSuchElementException.class, () -> x.type(3, false));
        Checks.dueThrows("without a program", NoSuchElementException.class, () -> new House().type(0, true));
    }

    private static void hidden() {
        House x = House.ofBits(Bits.program("8", "11", "1 2 1"));
        Checks.due("source", x.type(1, false), -2);
        Checks.due("target", x.type(1, true), -2);
        Checks.due("OUT", x.look(8), 0);
        due(x, 2, false, "((1+1)*1)");
        Checks.due("source", x.type(1, false), -2);
        Checks.due("OUT stays", x.outBytes(), Checks.bytes("((1+1)*1)"));
    }

    private static void texts() {
        House x = House.ofBits(Bits.program("8", "3 1", "4 1", "2 1 2", "5 1", "6 1"));
        due(x, 0, true, "1");
        due(x, 1, true, "(1+1)");
        due(x, 2, true, "(1+(1+1))");
        due(x, 3, true, "((1+(1+1))*(1+1))");
        due(x, 4, false, "(1*1)");
        due(x, 4, true, "((1+(1+1))*(1+1))");
        due(x, 5, false, "(1*(1*1))");
        House y = House.ofBits(Bits.program("8", "3 1", "3 1"));
        due(y, 2, true, "((1+1)+1)");
        House z = House.of("a = jet 0");
        String four = "(((1+1)*(1+1))*((1+1)*(1+1)))";
        String eight = "(" + four + "*" + four + ")";
        due(z, 0, false, "(" + eight + "*" + eight + ")");
        due(z, 0, true, "((1+1)*" + eight + ")");
    }

    private static void last(String speech, String source, String target) {
        House x = House.of(speech);
        int last = x.look(0) - 1;
        due(x, last, false, source);
        due(x, last, true, target);
    }

    private static void rules() {
        last("a = iden", "1", "1");
        last("a = comp left unit iden", "1", "(1+1)");
        last("a = unit", "1", "1");
        last("a = fail", "1", "1");
        last("a = pair left unit right left unit", "1", "((1+1)*(1+(1+1)))");
        last("a = left right unit", "1", "((1+1)+1)");
        last("a = right left unit", "1", "(1+(1+1))");
        last("a = take left iden", "(1*1)", "(1+1)");
        last("a = drop right iden", "(1*1)", "(1+1)");
        last("a = take take iden", "((1*1)*1)", "1");
        last("a = take drop iden", "((1*1)*1)", "1");
        last("a = drop take iden", "(1*(1*1))", "1");
        last("a = case take iden take iden", "((1+1)*1)", "1");
        last("a = case drop take unit drop take unit", "((1+1)*(1*1))", "1");
        last("a = case (take take unit) drop unit", "(((1*1)+1)*1)", "1");
        last("a = case drop unit (take drop unit)", "((1+(1*1))*1)", "1");
        last("a = case (take take unit) hidden " + "0".repeat(64), "(((1*1)+1)*1)", "1");
        last("a = case hidden " + "0".repeat(64) + " take take left unit", "((1+(1*1))*1)", "(1+1)");
        last("a = comp (pair left unit iden) case take left unit take right unit", "1", "(1+1)");
        last("a = comp witness 0 (comp (pair iden unit) case unit unit)", "1", "1");
        // the most general ones of each node, made the same by what stands above
        House x = House.of("i = iden a = pair (comp i take unit) i");
        due(x, 0, false, "(1*1)");
        due(x, 0, true, "(1*1)");
    }

    /** n parts have 4 n - 3 bytes: 75 have 297, 76 have 301. */
    private static void longSums() {
        String[] told = new String[80];
        told[0] = "8";
        StringBuilder text = new StringBuilder("1");
        for (int i = 1; i < 80; i++) {
            told[i] = i % 2 == 0 ? "3 1" : "4 1";
        }
        House x = House.ofBits(Bits.program(told));
        for (int i = 1; i < 80; i++) {
            if (i % 2 == 0) {
                text.insert(0, "(").append("+1)");
            } else {
                text.insert(0, "(1+").append(")");
            }
            Checks.due("type of " + i, x.type(i, true), i < 75 ? 4 * i + 1 : -1);
            if (i == 74) {
                Checks.due("text of " + i, x.outBytes(), Checks.bytes(text.toString()));
            }
            Checks.due("OUT", x.look(8), Math.min(4 * i + 1, 297));
        }
    }

    private static void longProducts() {
        String[] told = new String[80];
        told[0] = "8";
        for (int i = 1; i < 80; i++) {
            told[i] = "2 1 " + i;
        }
        House x = House.ofBits(Bits.program(told));
        Checks.due("75 parts", x.type(74, true), 297);
        Checks.due("text", x.outBytes(), Checks.bytes("(".repeat(74) + "1" + "*1)".repeat(74)));
        Checks.due("76 parts", x.type(75, true), -1);
        Checks.due("OUT stays", x.look(8), 297);
        // as a tree: 64 parts and 128
        House y = House.ofBits(Bits.program(Rows.pairNodes(8)));
        Checks.due("64 parts", y.type(6, true), 253);
        Checks.due("128 parts", y.type(7, true), -1);
        // WORD 32 has 64 parts, WORD 64 has 128
        Checks.due("WORD 32", House.of("a = jet 122").type(0, true), 253);
        Checks.due("WORD 64", House.of("a = jet 123").type(0, true), -1);
    }

    private static void longSources() {
        String[] told = new String[80];
        told[0] = "8";
        for (int i = 1; i < 80; i++) {
            told[i] = i % 2 == 0 ? "5 1" : "6 1";
        }
        House x = House.ofBits(Bits.program(told));
        Checks.due("75 parts", x.type(74, false), 297);
        Checks.due("76 parts", x.type(75, false), -1);
        Checks.due("its target", x.type(75, true), 1);
        Checks.due("75 parts", x.type(74, false), 297);
    }

    private static void wrap() {
        House x = House.ofBits(Bits.program(Rows.pairNodes(400)));
        for (int i = 7; i < 400; i++) {
            Checks.due("2^" + i + " parts", x.type(i, true), -1);
        }
        Checks.due("OUT", x.look(8), 0);
        Checks.due("64 parts", x.type(6, true), 253);
    }

    private static void outStays() {
        House x = House.of("w = jet 123 a = case (take w) hidden " + "0".repeat(64));
        Checks.due("write", x.write() > 30);
        byte[] before = x.outBytes();
        int last = x.look(0) - 1;
        Checks.due("too long", x.type(last, true), -1);
        Checks.due("OUT", x.outBytes(), before);
        Checks.due("HIDDEN", x.type(last - 1, true), -2);
        Checks.due("OUT", x.outBytes(), before);
        Checks.due("short", x.type(last, false), 9);
        Checks.due("OUT", x.outBytes(), Checks.bytes("((1+1)*1)"));
    }

    private static void nothingElse() {
        House x = House.of("a = comp witness 00001111 jet 92");
        x.run(100, 100, false);
        x.say("a = b");
        x.load("1");
        x.feed(5, 77);
        String[] before = x.state().split(" ");
        Checks.due("type", x.type(0, false), 1);
        String[] behind = x.state().split(" ");
        Checks.due("OUT", behind[15] + " " + behind[16], "49 49");
        before[15] = behind[15];
        before[16] = behind[16];
        Checks.due("state", String.join(" ", behind), String.join(" ", before));
    }
}

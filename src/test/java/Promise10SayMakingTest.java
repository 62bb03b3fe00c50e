/** Promise 10: what a speech makes: error 3, nodes that become one or are left out, 7 to 11 and both 4s. */
public final class Promise10SayMakingTest {
    private static final String H = "hidden " + "0".repeat(64);
    private static final String G = "hidden " + "f".repeat(64);
    /** A hundred nodes. */
    private static final String HUNDRED = "a=" + "take ".repeat(99) + "unit ";
    /** From ONE + WORD 8, and from no more general type, to WORD 8. */
    private static final String FORCE =
            "f = comp (pair iden unit) case (take comp unit jet 120) (take comp (comp jet 92 unit) jet 120) ";
    private static final String WIDE = "a = jet 123 b = pair a a c = pair b b d = pair c c e = pair d d f = pair e e ";

    private Promise10SayMakingTest() {
    }

    public static void main(String[] args) {
        Checks.test("promise 10: 2000 nodes are made", Promise10SayMakingTest::twoThousand);
        Checks.test("promise 10: error 3, one more, at its kind", Promise10SayMakingTest::oneMore);
        Checks.test("promise 10: error 3, new makes all or none", Promise10SayMakingTest::newMakes);
        Checks.test("promise 10: error 3, the first of 1, 2, 3 from the left", Promise10SayMakingTest::threeInTurn);
        Checks.test("promise 10: names, brackets and definitions make no nodes", Promise10SayMakingTest::noNodes);
        Checks.test("promise 10: a name is the very node", Promise10SayMakingTest::veryNode);
        Checks.test("promise 10: new makes all below once more, shared as they were", Promise10SayMakingTest::onceMore);
        Checks.test("promise 10: the last definition's node is the last", Promise10SayMakingTest::lastOne);
        Checks.test("promise 10: what it doesn't come to is left out", Promise10SayMakingTest::leftOut);
        Checks.test("promise 10: nodes that are the same become one", Promise10SayMakingTest::becomeOne);
        Checks.test("promise 10: .. from the children on", Promise10SayMakingTest::fromChildren);
        Checks.test("promise 10: .. not with another type, not WITNESS ones", Promise10SayMakingTest::notTheSame);
        Checks.test("promise 10: the order that 5 asks for", Promise10SayMakingTest::order);
        Checks.test("promise 10: the witness's rows in this order", Promise10SayMakingTest::rowsInOrder);
        Checks.test("promise 10: error 7", Promise10SayMakingTest::seven);
        Checks.test("promise 10: error 8", Promise10SayMakingTest::eight);
        Checks.test("promise 10: error 9, 2048 and more", Promise10SayMakingTest::nine);
        Checks.test("promise 10: error 4, 400 nodes are left, and one more", Promise10SayMakingTest::fourHundred);
        Checks.test("promise 10: error 10", Promise10SayMakingTest::ten);
        Checks.test("promise 10: error 11", Promise10SayMakingTest::eleven);
        Checks.test("promise 10: 7, 8, 9, 4, 10, 11 in this order", Promise10SayMakingTest::inOrder);
        Checks.test("promise 10: the text of 8192 bytes, and of more", Promise10SayMakingTest::longest);
        Checks.test("promise 10: 10 and 11 ahead of a text too long", Promise10SayMakingTest::aheadOfLong);
        Checks.test("promise 10: what it says can be loaded", Promise10SayMakingTest::loads);
        Checks.test("promise 10: with an error OUT stays, the tape is used up", Promise10SayMakingTest::leaves);
        Checks.end();
    }

    private static String copies(int n) {
        StringBuilder s = new StringBuilder(HUNDRED);
        for (int i = 1; i < n; i++) {
            s.append("b").append(i).append("=new a ");
        }
        return s.toString();
    }

    private static void twoThousand() {
        Says.fine(copies(20));
        Says.fine(copies(20) + "c=a");
        Says.fine(copies(19) + "c=" + "take ".repeat(99) + "unit");
        Says.fine("z=unit " + copies(19) + "c=" + "take ".repeat(98) + "unit");
        // 1999 and a last one by new
        Says.fine("z=unit " + copies(19) + "c=" + "take ".repeat(97) + "unit d=new z");
    }

    private static void oneMore() {
        String full = copies(20);
        for (String word : new String[] {"iden", "unit", "fail", "take unit", "drop unit", "left unit", "right unit",
            "comp unit unit", "pair unit unit", "case unit unit", "jet 1", "witness -", H}) {
            Says.due(full + "c=" + word, 3, full.length() + 2);
        }
        // ahead of what is behind it
        for (String word : new String[] {"take", "take )", "pair q", "jet", "jet 168", "jet x", "witness", "witness 2",
            "hidden", "hidden 1", "comp \u0001", "unit )"}) {
            Says.due(full + "c=" + word, 3, full.length() + 2);
        }
        Says.due(full + "c=(unit)", 3, full.length() + 3);
        Says.due(full + "c = \n unit", 3, full.length() + 6);
        // with 1999 there is room for one: its child is one too many
        String less = "z=unit " + copies(19) + "c=" + "take ".repeat(97) + "unit ";
        Says.fine(less + "d=unit");
        Says.fine(less + "d=take a");
        Says.fine(less + "d=pair z z");
        Says.due(less + "d=take unit", 3, less.length() + 7);
        Says.due(less + "d=pair a unit", 3, less.length() + 9);
        Says.due(less + "d=pair unit a", 3, less.length() + 7);
        Says.due(less + "d=unit e=unit", 3, less.length() + 9);
        Says.due(less + "d=unit e=new z", 3, less.length() + 9);
    }

    private static void newMakes() {
        String full = copies(20);
        Says.due(full + "c=new a", 3, full.length() + 2);
        Says.due(full + "c=(new a)", 3, full.length() + 3);
        Says.due(full + "c=new b1", 3, full.length() + 2);
        // the name is looked at first
        Says.due(full + "c=new q", 2, full.length() + 6);
        Says.due(full + "c=new c", 2, full.length() + 6);
        Says.due(full + "c=new unit", 1, full.length() + 6);
        Says.due(full + "c=new", 1, full.length() + 5);
        Says.due(full + "c=new )", 1, full.length() + 6);
        // 1900 and 99 more: of a hundred not one is made, so that another one has room
        String less = copies(19) + "c=" + "take ".repeat(98) + "unit ";
        Says.due(less + "d=new a", 3, less.length() + 2);
        Says.fine(less + "d=unit");
        Says.due(less + "d=pair unit new a", 3, less.length() + 7);
        String fits = "z=unit " + copies(19) + "y=" + "take ".repeat(98) + "unit ";
        Says.due(fits + "c=new z", 3, fits.length() + 2);
        // shared nodes are made once: 3 of them, not 4
        String pairs = "p=unit q=pair p p r=take q " + copies(19) + "c=" + "take ".repeat(93) + "unit ";
        Says.fine(pairs + "d=new r");
        Says.due(pairs + "d=new r e=unit", 3, pairs.length() + 10);
        String fewer = "p=unit q=pair p p r=take q " + copies(19) + "c=" + "take ".repeat(94) + "unit ";
        Says.due(fewer + "d=new r", 3, fewer.length() + 2);
        Says.fine(fewer + "d=new q");
        // 807 nodes at once, up to 2000 and up to 2001
        String many = HUNDRED + "c=pair a new a d=pair c new c e=pair d new d g=new c h=new a ";
        Says.fine(many + "i=" + "take ".repeat(84) + "unit j=new e");
        String more = many + "i=" + "take ".repeat(85) + "unit j=";
        Says.due(more + "new e", 3, more.length());
        Says.fine(more + "new d");
    }

    private static void threeInTurn() {
        String full = copies(20);
        Says.due(full + "c=q d=unit", 2, full.length() + 2);
        Says.due(full + "c=) d=unit", 1, full.length() + 2);
        Says.due(full + "a=unit", 2, full.length());
        Says.due(full + "unit=unit", 1, full.length());
        Says.due(full + "c=unit d=q", 3, full.length() + 2);
        Says.due(full + "c unit", 1, full.length() + 2);
        // ahead of 7, 8 and all others
        String clash = "h=comp unit jet 0 " + copies(19) + "d=" + "take ".repeat(96) + "unit ";
        Says.due(clash + "c=h", 8, 0);
        Says.due(clash + "c=unit", 3, clash.length() + 2);
    }

    private static void noNodes() {
        StringBuilder s = new StringBuilder(copies(20));
        for (int i = 0; i < 100; i++) {
            s.append("c").append(i).append("=((a)) ");
        }
        Says.fine(s.toString());
    }

    private static void veryNode() {
        Says.nodes("a = unit b = pair a a", 2);
        Says.nodes("a = witness - b = pair a a", 2);
        Says.nodes("a = witness - b = a c = pair a b", 2);
        Says.nodes("a = witness - b = (a) c = (pair (a) b)", 2);
        // one node has one type
        Says.due("a = iden b = pair (comp a jet 92) comp jet 92 (comp unit a)", 8, 0);
        Says.due("a = iden b = pair a a c = comp b b", 8, 0);
        Says.due("a = iden b = comp (comp a jet 120) a", 8, 0);
    }

    private static void onceMore() {
        Says.fine("a = iden b = pair a a c = comp b new b");
        Says.fine("a = iden b = comp (comp a jet 120) new a");
        Says.nodes("a = witness - b = pair a new a", 3);
        // all below, shared as they were
        Says.nodes("a = witness - b = pair a a c = pair b new b", 5);
        Says.nodes("a = witness - b = take a c = pair b new b", 5);
        Says.nodes("a = witness - b = take a c = pair a new b", 4);
        Says.nodes("a = witness - b = new a c = pair b new b", 3);
        Says.nodes("w = witness - a = pair (pair w w) pair w w b = pair a new a", 2 * 3 + 1);
        // rows, bits and numbers come along
        Says.same("a = comp witness 00000011 jet 92 b = pair a new a",
                "b = pair (comp witness 00000011 jet 92) (comp witness 00000011 jet 92)");
        Says.same("a = case unit " + G + " b = new a", "a = case unit " + G);
        Says.same("a = jet 167 b = new a", "a = jet 167");
        // what a name's E has come to, not what stood in it: a copy of a copy
        Says.nodes("a = witness - b = pair a new a c = pair b new b", 3 + 3 + 1);
    }

    private static void lastOne() {
        Says.same("a = unit b = iden", "a = iden");
        Says.same("b = iden a = unit", "a = unit");
        Says.same("a = left unit b = right a c = a", "a = left unit");
        Says.same("a = take unit b = iden c = a d = c", "a = take unit");
    }

    private static void leftOut() {
        Says.same("b = take " + H + " a = unit", "a = unit");
        Says.same("b = " + H + " a = unit", "a = unit");
        Says.same("b = comp unit jet 0 a = unit", "a = unit");
        Says.same("b = witness 1 a = unit", "a = unit");
        Says.same(WIDE + "g = left f z = unit", "a = unit");
        // what asks for another type, but is left out, does not ask
        Says.same("i = iden b = comp i jet 92 a = i", "a = iden");
        Says.same("w = witness - b = comp w jet 92 a = w", "a = witness -");
        Says.due("w = witness 00000000 b = comp w jet 92 a = w", 10, 0);
    }

    private static void becomeOne() {
        Says.same("a = pair unit unit", "u = unit a = pair u u");
        Says.same("b = unit c = unit a = pair c b", "u = unit a = pair u u");
        Says.same("b = unit c = unit a = pair b c", "u = unit a = pair u u");
        Says.same("b = left unit c = left unit d = left unit a = pair d pair c b", "u = left unit a = pair u pair u u");
        Says.same("b = unit c = unit d = left b a = pair c d", "u = unit a = pair u left u");
        Says.same("b = unit c = unit d = pair b iden a = pair c d", "u = unit a = pair u pair u iden");
        Says.same("a = pair iden iden", "u = iden a = pair u u");
        Says.same("a = pair fail fail", "u = fail a = pair u u");
        Says.same("a = pair jet 7 jet 7", "u = jet 7 a = pair u u");
        Says.same("a = pair left unit left unit", "u = left unit a = pair u u");
        Says.same("a = pair (case unit " + H + ") case unit " + H, "u = case unit " + H + " a = pair u u");
        Says.nodes("a = pair unit unit", 2);
        Says.nodes("a = pair (case unit " + H + ") case (" + H + ") unit", 5);
        Says.nodes("a = pair (case unit " + H + ") case unit " + G, 6);
        Says.nodes("a = pair (pair unit iden) pair unit iden", 4);
        Says.nodes("a = pair (pair unit iden) pair iden unit", 5);
    }

    private static void fromChildren() {
        StringBuilder s = new StringBuilder("pair unit unit");
        for (int i = 0; i < 6; i++) {
            s = new StringBuilder("pair (" + s + ") (" + s + ")");
        }
        Says.nodes("a = " + s, 8);
        // a thousand nodes become nine
        StringBuilder t = new StringBuilder("x0 = unit ");
        for (int i = 1; i <= 8; i++) {
            t.append("x").append(i).append(" = pair new x").append(i - 1).append(" new x").append(i - 1).append(" ");
        }
        Says.nodes(t.toString(), 9);
    }

    private static void notTheSame() {
        Says.nodes("a = pair (comp jet 120 unit) unit", 5);
        Says.nodes("a = comp (comp jet 120 unit) unit", 5);
        Says.nodes("a = pair (comp jet 92 unit) unit", 4);
        Says.nodes("a = comp (comp iden jet 120) iden", 5);
        Says.nodes("a = pair witness - witness -", 3);
        Says.nodes("a = pair left witness - left witness -", 5);
        Says.nodes("a = pair jet 96 jet 100", 3);
        Says.nodes("a = pair left unit right unit", 4);
    }

    private static void order() {
        House x = House.of("d = unit c = iden b = pair c d a = pair d b");
        int[][] want = {{8, -1, -1}, {7, -1, -1}, {2, 1, 0}, {2, 0, 2}};
        for (int i = 0; i < want.length; i++) {
            for (int k = 0; k < 3; k++) {
                Checks.due("node " + i + ", " + k, x.node(i, k), want[i][k]);
            }
        }
        House y = House.of("d = unit c = iden b = pair c d a = pair b d");
        int[][] other = {{7, -1, -1}, {8, -1, -1}, {2, 0, 1}, {2, 2, 1}};
        for (int i = 0; i < other.length; i++) {
            for (int k = 0; k < 3; k++) {
                Checks.due("node " + i + ", " + k, y.node(i, k), other[i][k]);
            }
        }
    }

    private static void rowsInOrder() {
        String n = "n = jet 92 ";
        House x = House.of(n + "b = comp witness 00000001 n a = comp witness 00000010 n c = pair a b");
        Checks.due("run", x.run(1000, 1000, false), 2);
        Checks.due("value", x.outBytes(), Checks.bits("11111101" + "11111110"));
        Checks.due("speak", x.speak() > 0);
        String speech = new String(x.outBytes(), java.nio.charset.StandardCharsets.ISO_8859_1);
        Checks.due("the first row", speech.startsWith("n0 = witness 00000010\n"));
        // rows of no bits among them
        House y = House.of(n + "a = pair witness - (pair comp witness 11110000 n witness -)");
        Checks.due("bits", y.look(6), 8);
        Checks.due("run", y.run(1000, 1000, false), 1);
        Checks.due("value", y.outBytes(), Checks.bits("00001111"));
    }

    private static void seven() {
        Says.due("a = " + H, 7, 0);
        for (String word : new String[] {"take", "drop", "left", "right"}) {
            Says.due("a = " + word + " " + H, 7, 0);
        }
        for (String word : new String[] {"comp", "pair"}) {
            Says.due("a = " + word + " unit " + H, 7, 0);
            Says.due("a = " + word + " " + H + " unit", 7, 0);
        }
        Says.due("a = case " + H + " " + H, 7, 0);
        Says.due("a = case " + H + " " + G, 7, 0);
        Says.fine("a = case unit " + H);
        Says.fine("a = case " + H + " unit");
        Says.due("h = " + H + " b = case unit h a = pair b h", 7, 0);
        Says.due("h = " + H + " b = case unit h a = h", 7, 0);
        Says.fine("h = " + H + " b = h a = case unit b");
    }

    private static void eight() {
        Says.due("a = comp unit jet 0", 8, 0);
        Says.due("a = case unit left unit", 8, 0);
        Says.due("a = pair jet 92 jet 93", 8, 0);
        Says.due("i = iden a = comp left i i", 8, 0);
        Says.due("i = iden a = pair i take i", 8, 0);
        Says.due("i = iden b = pair i i a = comp b comp b b", 8, 0);
        Says.fine("i = iden b = pair i i a = comp b comp new b new b");
    }

    private static void nine() {
        Says.fine(WIDE);
        Says.due(WIDE + "g = pair f f", 9, 0);
        Says.due(WIDE + "g = left f", 9, 0);
        Says.due(WIDE + "g = right f", 9, 0);
        Says.due(WIDE + "g = comp (left f) unit", 9, 0);
        Says.due(WIDE + "g = pair f left unit", 9, 0);
        Says.fine(WIDE + "g = pair f unit");
        Says.fine(WIDE + "g = comp f unit");
        StringBuilder s = new StringBuilder("x0 = left unit ");
        for (int i = 1; i <= 70; i++) {
            s.append("x").append(i).append("=pair x").append(i - 1).append(" x").append(i - 1).append(" ");
            if (i == 11) {
                Says.fine(s.toString());
            }
            if (i == 12 || i >= 28 && i <= 36 || i >= 60) {
                Says.due(s.toString(), 9, 0);
            }
        }
    }

    private static void fourHundred() {
        Says.fine("a = " + "take ".repeat(399) + "unit");
        Says.due("a = " + "take ".repeat(400) + "unit", 4, 0);
        Says.nodes("a = " + "take ".repeat(399) + "unit", 400);
        // more than that before they become one
        Says.nodes("a = " + "left ".repeat(398) + "unit b = pair a new a", 400);
        Says.due("a = " + "left ".repeat(399) + "unit b = pair a new a", 4, 0);
        // witnesses do not become one: 199 twice, and 2 above
        Says.nodes("a = " + "left ".repeat(198) + "witness - b = left pair a new a", 400);
        Says.due("a = " + "left ".repeat(198) + "witness - b = left left pair a new a", 4, 0);
        // what is left out does not count
        Says.fine("z = " + "take ".repeat(300) + "unit a = " + "take ".repeat(300) + "iden");
    }

    private static void ten() {
        Says.fine("a = witness -");
        Says.due("a = witness 0", 10, 0);
        Says.due("a = comp witness 0000000 jet 92", 10, 0);
        Says.fine("a = comp witness 00000000 jet 92");
        Says.due("a = comp witness 000000000 jet 92", 10, 0);
        Says.due("a = comp witness - jet 92", 10, 0);
        // the sum is right, the rows are not
        Says.due("n = jet 92 a = pair (comp witness 0000000 n) comp witness 000000000 n", 10, 0);
        Says.fine("n = jet 92 a = pair (comp witness 00000000 n) comp witness 00000000 n");
        Says.due("n = jet 92 a = pair (comp witness 00000000 n) comp witness - n", 10, 0);
        // copies have types of their own
        Says.due("w = witness 00000000 a = pair (comp w jet 92) new w", 10, 0);
        Says.fine("w = witness 00000000 a = pair (comp w jet 92) (comp new w jet 92)");
    }

    private static void eleven() {
        Says.fine(FORCE + "a = comp witness 000000000 f");
        Says.fine(FORCE + "a = comp witness 111111111 f");
        Says.due(FORCE + "a = comp witness 000000001 f", 11, 0);
        Says.due(FORCE + "a = comp witness 010000000 f", 11, 0);
        Says.due(FORCE + "a = pair (comp witness 100000000 f) comp witness 000000001 f", 11, 0);
        Says.due(FORCE + "a = pair (comp witness 000000001 f) comp witness 100000000 f", 11, 0);
        Says.fine(FORCE + "w = witness 000000001 a = comp witness 100000000 f");
    }

    private static void inOrder() {
        String clash = "(comp unit jet 0)";
        String long4 = "(" + "take ".repeat(400) + "unit)";
        Says.due("a = pair " + clash + " " + H, 7, 0);
        Says.due(WIDE + "g = pair (pair f f) " + H, 7, 0);
        Says.due(WIDE + "g = pair (pair f f) " + clash, 8, 0);
        Says.due("a = comp " + long4 + " jet 0", 8, 0);
        Says.due("a = comp " + long4 + " " + H, 7, 0);
        Says.due(WIDE + "g = comp (take " + long4 + ") (pair f f)", 9, 0);
        Says.due("a = comp " + long4 + " witness 1", 4, 0);
        Says.due(FORCE + "a = comp " + long4 + " comp witness 000000001 f", 4, 0);
        Says.due("a = comp (comp unit jet 0) witness 1", 8, 0);
        Says.due(WIDE + "g = pair (pair f f) witness 1", 9, 0);
        // 10 of a later one ahead of 11 of an earlier one
        Says.due(FORCE + "a = pair (comp witness 000000001 f) witness 1", 10, 0);
        Says.due(FORCE + "a = pair witness 1 (comp witness 000000001 f)", 10, 0);
        Says.due(FORCE + "a = pair witness - (comp witness 000000001 f)", 11, 0);
    }

    private static void longest() {
        for (int bytes = 8190; bytes <= 8194; bytes++) {
            String speech = Rows.speechOf(bytes);
            House x = new House();
            Checks.due("say", x.say("a = fail"), 0);
            int size = x.look(8);
            Checks.due("say with " + bytes, x.say(speech), bytes > 8192 ? 4 : 0);
            Checks.due("OUT", x.look(8), bytes > 8192 ? size : bytes);
            Checks.due("no place", x.look(14), 0);
            if (bytes <= 8192) {
                byte[] want = new Oracle().say(Checks.bytes(speech));
                Checks.due("size", want.length, bytes);
                for (int k = 0; k < bytes && x.left() > 8; k += k < 300 || k > bytes - 100 ? 8 : 424) {
                    long eight = 0;
                    for (int i = 7; i >= 0; i--) {
                        eight = eight << 8 | (k + i < bytes ? want[k + i] & 255 : 0);
                    }
                    Checks.due("OUT from " + k, x.out(k), eight);
                }
                Checks.due("again", x.again(), bytes);
                Checks.due("load", x.load(), 0);
                Checks.due("write", x.write(), bytes);
            }
        }
        // far above
        House y = new House();
        Checks.due("40 rows of 2048 bits", y.say(Rows.rowsOf(40, "")), 4);
        House z = new House();
        Checks.due("64 rows of 2048 bits", z.say(Rows.rowsDoubled()), 4);
    }

    private static void aheadOfLong() {
        House x = new House();
        Checks.due("a row too short", x.say(Rows.rowsOf(40, "z=pair y40 witness 1 ")), 10);
        House y = new House();
        Checks.due("no value", y.say(Rows.rowsOf(36, FORCE.replace(" = ", "=").replace("f=", "g=")
                + "z=pair y36 comp witness 000000001 g ")), 11);
        House z = new House();
        Checks.due("no types", z.say(Rows.rowsOf(40, "z=pair y40 comp unit jet 0 ")), 8);
    }

    private static void loads() {
        for (String speech : new String[] {"a = unit", "a = pair witness - fail", "a = case unit " + H, WIDE,
            FORCE + "a = comp witness 100000001 f", "a = jet 167", "a = " + "take ".repeat(399) + "unit"}) {
            House x = House.of(speech);
            int size = x.look(8);
            Checks.due("write", x.write(), size);
            Checks.due("OUT", x.outBytes(), new Oracle().say(Checks.bytes(speech)));
        }
    }

    private static void leaves() {
        House x = House.of("a = comp witness 00001111 jet 92");
        x.run(100, 100, false);
        String before = x.state();
        for (String speech : new String[] {"a", "a = b", "a = " + H, "a = comp unit jet 0", "a = witness 1",
            FORCE + "a = comp witness 000000001 f"}) {
            Checks.due("error", x.say(speech) > 0);
            String[] behind = x.state().split(" ");
            behind[14] = "0";
            Checks.due("state", String.join(" ", behind), before);
        }
        Checks.due("OUT", x.out(0), 0xf0);
        Checks.due("fine", x.say("a = unit"), 0);
        Checks.due("OUT", x.outBytes(), Checks.bits("0" + "01000" + "0"));
        Checks.due("the loaded one", x.look(0), 3);
    }
}

/** Promise 10: the form of a speech: the errors 1 and 2 and their places. */
public final class Promise10SayFormTest {
    private static final String ZEROS = "0".repeat(64);

    private Promise10SayFormTest() {
    }

    public static void main(String[] args) {
        Checks.test("promise 10: an empty tape, and blanks alone", Promise10SayFormTest::nothing);
        Checks.test("promise 10: bytes 10 and 32 to 126", Promise10SayFormTest::bytes);
        Checks.test("promise 10: a byte that may not be, when a word is looked for there", Promise10SayFormTest::strange);
        Checks.test("promise 10: words, and = ( ) alone", Promise10SayFormTest::words);
        Checks.test("promise 10: definitions, one at least", Promise10SayFormTest::definitions);
        Checks.test("promise 10: the place is the text's end, if there is no word", Promise10SayFormTest::end);
        Checks.test("promise 10: a NAME, 8 of all at most", Promise10SayFormTest::names);
        Checks.test("promise 10: many names, each one found", Promise10SayFormTest::manyNames);
        Checks.test("promise 10: a NAME is no word of the tongue", Promise10SayFormTest::tongue);
        Checks.test("promise 10: error 2, not told before", Promise10SayFormTest::notTold);
        Checks.test("promise 10: error 2, told again", Promise10SayFormTest::toldAgain);
        Checks.test("promise 10: from the left to the right", Promise10SayFormTest::leftToRight);
        Checks.test("promise 10: how many Es each word wants", Promise10SayFormTest::operands);
        Checks.test("promise 10: a number of a jet, 1 to 3 digits", Promise10SayFormTest::jets);
        Checks.test("promise 10: a row of 0 and 1, or -", Promise10SayFormTest::rows);
        Checks.test("promise 10: 64 of 0 to 9, a to f", Promise10SayFormTest::hiddens);
        Checks.test("promise 10: new and a name", Promise10SayFormTest::news);
        Checks.test("promise 10: ( E )", Promise10SayFormTest::brackets);
        Checks.test("promise 10: a long text, and its last byte", Promise10SayFormTest::longText);
        Checks.test("promise 10: a text of 8192 bytes", Promise10SayFormTest::fullTape);
        Checks.test("promise 10: the place is that of the latest speech", Promise10SayFormTest::latest);
        Checks.end();
    }

    private static void nothing() {
        Says.due("", 1, 0);
        Says.due(" ", 1, 1);
        Says.due("\n", 1, 1);
        Says.due(" \n\n  ", 1, 5);
    }

    private static void bytes() {
        Says.fine("a = unit");
        Says.fine("\n a \n=\n\n  unit\n\n");
        Says.fine("a=unit");
        Says.fine("a=unit\nb=a");
        Says.fine(" ".repeat(500) + "a = unit" + "\n".repeat(500));
        for (int b = 0; b < 256; b++) {
            if (b != 10 && (b < 32 || b > 126)) {
                Says.due((char) b + "a = unit", 1, 0);
                Says.due("a = unit" + (char) b, 1, 8);
                Says.due("a" + (char) b + "= unit", 1, 1);
                Says.due("a = " + (char) b + "unit", 1, 4);
            }
        }
        // 33 and 126 are bytes of words
        Says.due("! = unit", 1, 0);
        Says.due("a = ~", 1, 4);
        Says.due("a = unit~", 1, 4);
        Says.due("a = !unit", 1, 4);
        Says.due("a = unit !", 1, 9);
    }

    private static void strange() {
        // the word ends there; what it is comes first
        Says.due("a = uni\u0001", 2, 4);
        Says.due("a = unit\u0001", 1, 8);
        Says.due("a = uNit\u0001", 1, 4);
        Says.due("a = jet 168\u0001", 1, 8);
        Says.due("a = jet 16\u0001", 1, 10);
        Says.due("a = jet \u0001", 1, 8);
        Says.due("a = jet\u0001", 1, 7);
        Says.due("a = witness 01\u0001" + "01", 1, 14);
        Says.due("a = witness 02\u0001" + "01", 1, 12);
        Says.due("a = hidden " + ZEROS + "\u0001", 1, 75);
        Says.due("a = (unit\u0001)", 1, 9);
        Says.due("a = pair unit \u0001", 1, 14);
        Says.due("a = new \u0001", 1, 8);
        Says.due("unit\u0001 = unit", 1, 0);
        Says.due("a = b \u0001", 2, 4);
        Says.due("a\t= unit", 1, 1);
        Says.due("a =\r\nunit", 1, 3);
        Says.due("a = unit\r\n", 1, 8);
        Says.due("a = unit \u007f", 1, 9);
    }

    private static void words() {
        Says.fine("a=(unit)b=(take(a))");
        Says.fine("a=unit b=take a");
        Says.wrong("a = unit^=b", 1);
        Says.wrong("a =^= unit", 1);
        Says.wrong("a = ^= unit", 1);
        Says.wrong("a = ^takeunit", 2);
        Says.wrong("a = ^rightunit", 1);
        Says.wrong("a = take ^unitb = a", 2);
        Says.wrong("a = ^unit,", 1);
        Says.wrong("a = pair unit^)", 1);
        Says.wrong("a = pair(unit)^)", 1);
        Says.fine("a=pair(unit)(unit)");
        Says.fine("a=pair(unit)unit b=a");
        Says.wrong("a = unit ^;", 1);
    }

    private static void definitions() {
        Says.fine("a = unit b = unit c = unit");
        Says.wrong("^= unit", 1);
        Says.wrong("^(a = unit)", 1);
        Says.wrong("^) = unit", 1);
        Says.wrong("a ^unit", 1);
        Says.wrong("a ^( unit", 1);
        Says.wrong("a ^a = unit", 1);
        Says.wrong("a = unit b ^unit", 1);
        Says.wrong("a = unit ^= unit", 1);
        Says.wrong("a = unit ^(b = unit)", 1);
        Says.wrong("a = unit ^unit", 1);
        Says.wrong("a = unit ^-", 1);
        Says.wrong("a = unit b ^c = unit", 1);
    }

    private static void end() {
        Says.wrong("a^", 1);
        Says.wrong("a  \n^", 1);
        Says.wrong("a =^", 1);
        Says.wrong("a = ^", 1);
        Says.wrong("a = take^", 1);
        Says.wrong("a = take \n ^", 1);
        Says.wrong("a = pair unit^", 1);
        Says.wrong("a = jet^", 1);
        Says.wrong("a = jet ^", 1);
        Says.wrong("a = witness^", 1);
        Says.wrong("a = hidden ^", 1);
        Says.wrong("a = new^", 1);
        Says.wrong("a = (^", 1);
        Says.wrong("a = (unit^", 1);
        Says.wrong("a = (unit ^", 1);
        Says.wrong("a = unit b^", 1);
        Says.wrong("a = unit b =^", 1);
        Says.wrong("a = unit b = \n\n^", 1);
    }

    private static void names() {
        Says.fine("z = unit");
        Says.fine("a9 = unit");
        Says.fine("abcdefgh = unit");
        Says.fine("a1234567 = unit");
        Says.fine("abcdefgh = unit a = take abcdefgh");
        Says.wrong("^abcdefghi = unit", 1);
        Says.wrong("^a12345678 = unit", 1);
        Says.wrong("^9a = unit", 1);
        Says.wrong("^0 = unit", 1);
        Says.wrong("^A = unit", 1);
        Says.wrong("^aB = unit", 1);
        Says.wrong("^a_b = unit", 1);
        Says.wrong("^a-b = unit", 1);
        Says.wrong("^` = unit", 1);
        Says.wrong("^{ = unit", 1);
        Says.wrong("^a/ = unit", 1);
        Says.wrong("^a: = unit", 1);
        Says.wrong("^- = unit", 1);
        // where an E is wanted
        Says.wrong("a = ^abcdefghi", 1);
        Says.wrong("a = ^abcdefgh", 2);
        Says.wrong("a = ^9", 1);
        Says.wrong("a = ^B", 1);
        Says.wrong("a = take ^bC", 1);
        Says.wrong("a = take ^b1", 2);
        // names that differ at their ends alone
        Says.wrong("abcdefgh = unit a = ^abcdefgi", 2);
        Says.wrong("abcdefgh = unit a = ^abcdefg", 2);
        Says.wrong("abcdefgh = unit a = ^bbcdefgh", 2);
        Says.fine("abcdefgh = unit abcdefgi = unit bbcdefgh = unit abcdefg = unit");
        Says.fine("a = unit a0 = unit a00 = unit");
    }

    private static void manyNames() {
        StringBuilder told = new StringBuilder();
        StringBuilder used = new StringBuilder();
        for (int i = 0; i < 140; i++) {
            String name = (char) ('a' + i * 7 % 26) + "" + i;
            told.append(name).append(i % 2 == 0 ? "=unit " : "=iden ");
            used.append("pair ").append(name).append(" ");
        }
        Says.fine(told + "z=" + used + "unit");
        for (int i = 0; i < 140; i += 3) {
            String name = (char) ('a' + i * 7 % 26) + "" + i;
            Says.due(told + name + "=unit", 2, told.length());
            Says.fine(told + "z=pair " + name + " fail");
        }
    }

    private static final String[] TONGUE = {"iden", "unit", "fail", "take", "drop", "left", "right", "comp", "pair", "case",
        "jet", "witness", "hidden", "new"};

    private static void tongue() {
        for (String word : TONGUE) {
            Says.wrong("^" + word + " = unit", 1);
            Says.wrong("a = unit ^" + word + " = unit", 1);
            Says.fine(word + "0 = unit");
            Says.fine("x" + word.substring(1) + " = unit");
            Says.fine(word.substring(0, word.length() - 1) + " = unit");
            Says.wrong("a = ^" + word + "0", 2);
            Says.wrong("a = ^" + word.toUpperCase(), 1);
        }
        Says.wrong("a = new ^unit", 1);
        Says.wrong("a = new ^new", 1);
    }

    private static void notTold() {
        Says.wrong("a = ^b", 2);
        Says.wrong("a = ^a", 2);
        Says.wrong("a = take ^a", 2);
        Says.wrong("a = pair unit ^a", 2);
        Says.wrong("a = ^b b = unit", 2);
        Says.wrong("a = unit b = take ^b", 2);
        Says.wrong("a = unit b = pair a ^c", 2);
        Says.wrong("a = (^b)", 2);
        Says.wrong("a = new ^a", 2);
        Says.wrong("a = unit b = new ^c", 2);
        Says.fine("a = unit b = a c = b");
        // what an earlier speech told is forgotten
        House x = new House();
        Checks.due("say", x.say("a = unit"), 0);
        Checks.due("say", x.say("b = a"), 2);
        Checks.due("place", x.look(14), 4);
    }

    private static void toldAgain() {
        Says.wrong("a = unit ^a = unit", 2);
        Says.wrong("a = unit b = iden ^a = fail", 2);
        Says.wrong("a = unit b = iden ^b = fail", 2);
        // seen at the name, ahead of what is behind it
        Says.wrong("a = unit ^a", 2);
        Says.wrong("a = unit ^a unit", 2);
        Says.wrong("a = unit ^a ( =", 2);
        House x = new House();
        Checks.due("say", x.say("a = unit"), 0);
        Checks.due("the same name in another speech", x.say("a = iden"), 0);
    }

    private static void leftToRight() {
        Says.wrong("a = ^b )", 2);
        Says.wrong("a = ^) b", 1);
        Says.wrong("a = pair ^b jet 168", 2);
        Says.wrong("a = pair jet ^168 b", 1);
        Says.wrong("a = unit ^a = jet 168", 2);
        Says.wrong("a = unit b = jet ^168 a = unit", 1);
        // errors 1 to 3 are ahead of all others
        Says.wrong("a = comp unit jet 0 b = ^c", 2);
        Says.wrong("a = hidden " + ZEROS + " b = a ^)", 1);
        Says.wrong("a = witness 1 ^=", 1);
    }

    private static void operands() {
        for (String word : new String[] {"iden", "unit", "fail"}) {
            Says.fine("a = " + word);
            Says.wrong("a = " + word + " ^unit", 1);
        }
        for (String word : new String[] {"take", "drop", "left", "right"}) {
            Says.fine("a = " + word + " unit");
            Says.wrong("a = " + word + "^", 1);
            Says.wrong("a = " + word + " unit ^unit", 1);
            Says.wrong("a = " + word + " ^= unit", 1);
        }
        for (String word : new String[] {"comp", "pair", "case"}) {
            Says.fine("a = " + word + " unit unit");
            Says.wrong("a = " + word + "^", 1);
            Says.wrong("a = " + word + " unit^", 1);
            Says.wrong("a = " + word + " unit ^= unit", 1);
            Says.wrong("a = " + word + " unit unit ^unit", 1);
        }
        Says.fine("a = comp pair left unit unit case unit unit b = a");
        Says.same("a = pair pair unit iden pair fail witness -", "a = (pair (pair (unit) (iden)) (pair (fail) (witness -)))");
    }

    private static void jets() {
        for (String number : new String[] {"0", "1", "9", "10", "99", "100", "166", "167"}) {
            House x = House.of("a = jet " + number);
            Checks.due("number", x.node(0, 1), Integer.parseInt(number));
        }
        for (String number : new String[] {"168", "169", "170", "200", "255", "256", "999", "1000", "0000", "0001", "00167",
            "4294967296", "18446744073709551616", "-", "-1", "+1", "1a", "a1", "0x1", "1.0", "x", "a", "unit", "1-"}) {
            Says.due("a = jet " + number, 1, 8);
            Says.due("a = jet " + number + " b = unit", 1, 8);
        }
        Says.wrong("a = jet ^(1)", 1);
        Says.wrong("a = jet ^= 1", 1);
        Says.wrong("a = jet ^)", 1);
        Says.wrong("a = unit b = jet ^a", 1);
        Says.wrong("a = ^jet1", 2);
        Says.wrong("a = jet 1 ^2", 1);
    }

    private static void rows() {
        Says.fine("a = witness -");
        Says.due("a = witness 0", 10, 0);
        Says.due("a = witness 1", 10, 0);
        for (String row : new String[] {"--", "-0", "0-", "2", "012", "0a", "a", "x", "unit", "0,1", "o"}) {
            Says.due("a = witness " + row, 1, 12);
        }
        Says.wrong("a = witness ^(", 1);
        Says.wrong("a = witness ^)", 1);
        Says.wrong("a = witness ^= -", 1);
        Says.wrong("a = witness - ^-", 1);
        Says.fine("a = comp witness " + "01".repeat(4) + " jet 92");
    }

    private static void hiddens() {
        Says.fine("a = case unit hidden " + "0123456789abcdef".repeat(4));
        Says.due("a = hidden " + ZEROS, 7, 0);
        for (String hex : new String[] {ZEROS.substring(1), ZEROS + "0", ZEROS + ZEROS, "0", "-", "A" + ZEROS.substring(1),
            ZEROS.substring(1) + "g", ZEROS.substring(1) + "G", ZEROS.substring(1) + "F", "x" + ZEROS.substring(1),
            ZEROS.substring(1) + "/", ZEROS.substring(1) + ":", ZEROS.substring(1) + "`", "unit"}) {
            Says.due("a = hidden " + hex, 1, 11);
            Says.due("a = case unit hidden " + hex, 1, 21);
        }
        Says.wrong("a = hidden ^(", 1);
        Says.wrong("a = hidden ^=", 1);
        Says.wrong("a = hidden ^" + ZEROS.substring(1) + "(", 1);
        Says.wrong("a = hidden ^" + ZEROS.substring(1) + " 0", 1);
    }

    private static void news() {
        Says.fine("a = unit b = new a");
        Says.fine("a = unit b = take new a");
        Says.fine("a = unit b = (new a)");
        Says.wrong("a = unit b = new ^(a)", 1);
        Says.wrong("a = unit b = new ^=", 1);
        Says.wrong("a = unit b = new ^)", 1);
        Says.wrong("a = unit b = new ^new a", 1);
        Says.wrong("a = unit b = new ^unit", 1);
        Says.wrong("a = unit b = new ^jet 1", 1);
        Says.wrong("a = unit b = new ^A", 1);
        Says.wrong("a = unit b = new ^1", 1);
        Says.wrong("a = unit b = new ^abcdefghi", 1);
        Says.wrong("a = unit b = new ^abcdefgh", 2);
        Says.wrong("a = unit b = new a ^a", 2);
        Says.wrong("a = unit b = new a ^unit", 1);
    }

    private static void brackets() {
        Says.same("a = unit", "a = (unit)");
        Says.same("a = unit", "a = ((((unit))))");
        Says.same("a = pair unit take unit", "a = pair (unit) ((take ((unit))))");
        Says.wrong("a = (^)", 1);
        Says.wrong("a = (unit ^unit)", 1);
        Says.wrong("a = (unit ^a)", 1);
        Says.wrong("a = (unit ^=", 1);
        Says.wrong("a = (unit ^(", 1);
        Says.wrong("a = (unit)^)", 1);
        Says.wrong("a = ((unit)^", 1);
        Says.wrong("a = (pair unit^) unit", 1);
        Says.wrong("a = pair (unit ^unit)", 1);
    }

    private static void longText() {
        String open = "(".repeat(1500);
        String close = ")".repeat(1500);
        Says.fine("a = " + open + "unit" + close);
        Says.due("a = " + open + "unit" + close.substring(1), 1, 4 + 1500 + 4 + 1499);
        Says.due("a = " + open + "unit" + close + ")", 1, 4 + 1500 + 4 + 1500);
        Says.due("a = " + open, 1, 4 + 1500);
        Says.due("a = unit" + " ".repeat(3000) + "=", 1, 3008);
        Says.due("a = unit" + " ".repeat(3000) + "b", 1, 3009);
        StringBuilder s = new StringBuilder();
        for (int i = 0; i < 380; i++) {
            s.append("x").append(i).append("=unit ");
        }
        Says.fine(s.toString());
        Says.due(s + "x379=unit", 2, s.length());
        Says.due(s + "x0=unit", 2, s.length());
        Says.due(s + "y=x380", 2, s.length() + 2);
        Says.fine(s + "y=pair x0 x379");
    }

    /** A speech that is nearly as long as the tape, and what is fed behind it. */
    private static void full(int bytes, String behind, int error, int place) {
        House x = House.ofBits(Rows.spoken(bytes));
        Checks.due("speak", x.speak(), bytes);
        Checks.due("again", x.again(), bytes);
        x.put(behind);
        Checks.due("say with " + behind, x.say(), error);
        Checks.due("place with " + behind, x.look(14), place);
        Checks.due("tape", x.look(7), 0);
        if (behind.isBlank()) {
            int size = x.look(8);
            Checks.due("write", x.write(), size);
        }
    }

    private static void fullTape() {
        full(8192, "", 0, 0);
        full(8190, "\n ", 0, 0);
        full(8191, "=", 1, 8191);
        full(8191, "a", 1, 8192);
        full(8190, "a=", 1, 8192);
        full(8190, " =", 1, 8191);
        full(8189, "a=b", 2, 8191);
        full(8189, "a=(", 1, 8192);
        full(8189, "n0=", 2, 8189);
        full(8191, "\u0001", 1, 8191);
        full(8190, "a\u0001", 1, 8191);
        full(8188, "a=n9", 0, 0);
    }

    private static void latest() {
        House x = new House();
        Checks.due("say", x.say("aaaa = b"), 2);
        Checks.due("place", x.look(14), 7);
        Checks.due("say", x.say("a = ="), 1);
        Checks.due("place", x.look(14), 4);
        Checks.due("say", x.say("a = hidden " + ZEROS), 7);
        Checks.due("no place", x.look(14), 0);
        Checks.due("say", x.say("aa = b"), 2);
        Checks.due("place", x.look(14), 5);
        Checks.due("say", x.say("a = unit"), 0);
        Checks.due("no place", x.look(14), 0);
        Checks.due("say", x.say("aa = b"), 2);
        x.load("1");
        x.again();
        x.wipe();
        Checks.due("place", x.look(14), 5);
        Checks.due("say", x.say("= a"), 1);
        Checks.due("place 0", x.look(14), 0);
    }
}

/** Promise 12: OUT, which stays, comes on the tape in place of what was there: how many bytes. */
public final class Promise12AgainTest {
    private Promise12AgainTest() {
    }

    public static void main(String[] args) {
        Checks.test("promise 12: an empty OUT", Promise12AgainTest::empty);
        Checks.test("promise 12: in place of what was there", Promise12AgainTest::inPlace);
        Checks.test("promise 12: OUT stays", Promise12AgainTest::outStays);
        Checks.test("promise 12: 8192 bytes", Promise12AgainTest::full);
        Checks.test("promise 12: the tape and OUT are two", Promise12AgainTest::areTwo);
        Checks.test("promise 12: OUT of each call that writes it", Promise12AgainTest::ofEachCall);
        Checks.test("promise 12: nothing but the tape changes", Promise12AgainTest::nothingElse);
        Checks.end();
    }

    private static void empty() {
        House x = new House();
        Checks.due("of a new object", x.again(), 0);
        x.feed(8, -1);
        Checks.due("in place of eight bytes", x.again(), 0);
        Checks.due("tape", x.look(7), 0);
        Checks.due("wipe", x.wipe(), 0);
        House y = House.of("a = unit");
        Checks.due("a run that gives nothing", y.run(1, 1, false), 0);
        y.feed(8, -1);
        Checks.due("again", y.again(), 0);
        Checks.due("the value of ONE", y.run(1, 1, false), 0);
    }

    private static void inPlace() {
        House x = new House();
        Checks.due("say", x.say("a = unit"), 0);
        Checks.due("on an empty tape", x.again(), 1);
        Checks.due("load", x.load(), 0);
        x.put("some more bytes than that");
        Checks.due("in place of more", x.again(), 1);
        Checks.due("load", x.load(), 0);
        Checks.due("speak", x.speak(), 10);
        x.feed(1, 'q');
        Checks.due("in place of fewer", x.again(), 10);
        Checks.due("say", x.say(), 0);
        x.again();
        Checks.due("twice", x.again(), 1);
        Checks.due("tape", x.look(7), 1);
        Checks.due("behind it", x.feed(1, 0), 2);
        Checks.due("load", x.load(), 12);
    }

    private static void outStays() {
        House x = House.of("a = comp jet 95 iden");
        x.feed(8, 0x0123456789abcdefL);
        Checks.due("run", x.run(1000, 1000, false), 8);
        long out = x.out(0);
        Checks.due("again", x.again(), 8);
        Checks.due("OUT", x.look(8), 8);
        Checks.due("bytes", x.out(0), out);
        Checks.due("run", x.run(1000, 1000, false), 8);
        Checks.due("inverted twice", x.out(0), 0x0123456789abcdefL);
    }

    private static void full() {
        House x = Rows.tapeOf(8189);
        Checks.due("tape", x.look(7), 8189);
        House y = new House();
        Checks.due("say", y.say(Rows.speechOf(8192)), 0);
        Checks.due("again", y.again(), 8192);
        Checks.dueThrows("feed", IllegalStateException.class, () -> y.feed(1, 0));
        Checks.due("again", y.again(), 8192);
        Checks.due("load", y.load(), 0);
        Checks.due("OUT stays", y.look(8), 8192);
    }

    private static void areTwo() {
        House x = House.of("a = jet 95");
        x.feed(8, 5);
        Checks.due("run", x.run(1000, 1000, false), 8);
        x.again();
        // OUT changes, the tape does not
        Checks.due("type", x.type(0, false), -1);
        Checks.due("write", x.write() > 0);
        Checks.due("tape", x.look(7), 8);
        Checks.due("run", x.run(1000, 1000, false), 8);
        Checks.due("value", x.out(0), 5);
        // the tape changes, OUT does not
        x.again();
        x.wipe();
        x.feed(8, -1);
        Checks.due("OUT", x.out(0), 5);
        x.again();
        x.feed(3, 0x515151);
        Checks.due("OUT", x.look(8), 8);
        Checks.due("OUT's end", x.out(7), 0);
    }

    private static void ofEachCall() {
        House x = House.of("a = jet 92");
        Checks.due("of say, for load writes none", x.again(), 2);
        Checks.due("write", x.write(), x.again());
        Checks.due("speak", x.speak(), x.again());
        Checks.due("type", x.type(0, true), x.again());
        x.wipe();
        x.feed(1, 7);
        Checks.due("value", x.value(0, true), 3);
        Checks.due("again", x.again(), 3);
        Checks.due("worth", x.worth(0, true), 1);
        Checks.due("again", x.again(), 1);
        Checks.due("run", x.run(100, 100, false), 1);
        Checks.due("again", x.again(), 1);
        Checks.due("value", x.value(0, true), 3);
        Checks.due("text", x.outBytes(), Checks.bytes("#f8"));
    }

    private static void nothingElse() {
        House x = House.of("a = comp witness 00001111 jet 92");
        x.run(100, 100, false);
        x.say("a = b");
        x.load("1");
        x.feed(5, 77);
        String[] before = x.state().split(" ");
        Checks.due("tape", before[7], "5");
        before[7] = "1";
        Checks.due("again", x.again(), 1);
        Checks.due("state", x.state(), String.join(" ", before));
    }
}

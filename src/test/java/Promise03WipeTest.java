/** Promise 3: the tape is empty: how many bytes it had. */
public final class Promise03WipeTest {
    private Promise03WipeTest() {
    }

    public static void main(String[] args) {
        Checks.test("promise 3: how many bytes it had, from none to 8192", Promise03WipeTest::howMany);
        Checks.test("promise 3: the tape is empty", Promise03WipeTest::isEmpty);
        Checks.test("promise 3: nothing but the tape changes", Promise03WipeTest::nothingElse);
        Checks.end();
    }

    private static void howMany() {
        House x = new House();
        Checks.due("none", x.wipe(), 0);
        x.feed(1, 0);
        Checks.due("one", x.wipe(), 1);
        Checks.due("none again", x.wipe(), 0);
        x.feed(8, -1);
        x.feed(8, -1);
        x.feed(1, -1);
        Checks.due("17", x.wipe(), 17);
        House y = Rows.tapeOf(8189);
        y.feed(3, 0);
        Checks.due("all", y.wipe(), 8192);
        Checks.due("none again", y.wipe(), 0);
    }

    private static void isEmpty() {
        House x = new House();
        x.put("a = unit ");
        x.wipe();
        Checks.due("tape", x.look(7), 0);
        Checks.due("say", x.say(), 1);
        Checks.due("at the end of nothing", x.look(14), 0);
        x.put("a = unit ");
        x.wipe();
        Checks.due("behind nothing", x.feed(1, 32), 1);
        Checks.due("load", x.load(), 0);
        x.feed(1, 0);
        x.wipe();
        Checks.due("load", x.load(), 1);
        x.feed(1, 0);
        x.wipe();
        Checks.due("no bits are the value of ONE", x.run(1, 1, false), 0);
    }

    private static void nothingElse() {
        House x = House.of("a = comp witness 00001111 jet 92");
        x.run(100, 100, false);
        Checks.due("say", x.say("a = b"), 2);
        Checks.due("load", x.load("1"), 1);
        x.again();
        String before = x.state();
        x.wipe();
        Checks.due("state", x.state(), before.replaceFirst("^((\\d+ ){7})1 ", "$10 "));
        Checks.due("OUT", x.out(0), 0xf0);
    }
}
